-- the reference: the loop that mends a wire
set_option maxRecDepth 20000 in
/-- isWell, its loop -/
theorem cm_isWell_l {l : Launch} {D : va_G} {cy : Nat → ClassId} {z : Nat → Nat} {q : Nat → Nat} {p : Program} {e : Env} {s : State} {m : MethodId} {args : Array Value} {below : List Frame} {meth : Method} {c : Code} (hI : wI 9 q) (C : Cx p s m args meth c cX9_isWell 4 RX9 D cy z 9 q) (hr : meth.sig.returnType = (some .boolean)) {len span wires chg rsp rwi val ends : Nat} {text : Nat → Nat} {h was rd eyes fw bars ways : Nat → Int32} {i : Nat} (hi : i < wires) (hs : 8 ≤ span) (hs2 : span ≤ 40) (hw : wires ≤ 8) : ∀ (d : Nat) (k : Nat) (b : Bool), wires - k < d → (k ≤ wires) → (b = allB (wlP h span i) k) → AW p l e { frames := 3, cells := 0, slots := 0, locals := 75 } s m args below meth c D 9 q 4 (MQ below (Qg D 9 q (PI (bi (welB h span wires i)) (mdC cy q len span wires chg rsp rwi val ends text h was rd eyes fw bars ways)) (wA 9 q s.heap.size)) args s 0 0 (wA 9 q s.heap.size)) (mdC cy q len span wires chg rsp rwi val ends text h was rd eyes fw bars ways) [(0, .ref (q 0)), (1, .int (nI i)), (2, .int (bi b)), (3, .int (nI k))] 4 [] := by
  intro d
  induction d with
  | zero => intro k b hd; exact absurd hd (Nat.not_lt_zero _)
  | succ d ih =>
    intro k b hd iv0 iv1
    refine aw_iload_n C dX9_isWell_4 (i := 3) rfl rfl ?_
    refine aw_aload_n C dX9_isWell_5 (i := 0) rfl rfl ?_
    refine aw_get (k := 0) C dX9_isWell_6 fl_X9_38 (by decide) rfl rfl ?_
    refine aw_icmp_ge_n (tgt := 61) C dX9_isWell_9 (by decide) (by omega) (by omega) (fun h9 => ?_) (fun h9 => ?_)
    · refine aw_iload_n C dX9_isWell_61 (i := 2) rfl rfl ?_
      refine aw_zret C hr dX9_isWell_62 (bi_nar) ?_
      exact PI.mk (by rw [iv1, show k = wires by omega]; rfl) rfl
    · refine aw_iload_n C dX9_isWell_12 (i := 2) rfl rfl ?_
      refine aw_if_eq_b (tgt := 61) C dX9_isWell_13 (by decide) (fun h13 => ?_) (fun h13 => ?_)
      · refine aw_iload_n C dX9_isWell_61 (i := 2) rfl rfl ?_
        refine aw_zret C hr dX9_isWell_62 (bi_nar) ?_
        exact PI.mk (by rw [h13]; unfold welB; rw [allB_f (k := k) (by rw [← iv1]; exact h13) (by omega)]) rfl
      · refine aw_iload_n C dX9_isWell_16 (i := 3) rfl rfl ?_
        refine aw_iload_n C dX9_isWell_17 (i := 1) rfl rfl ?_
        refine aw_icmp_eq_n (tgt := 49) C dX9_isWell_18 (by decide) (by omega) (by omega) (fun h18 => ?_) (fun h18 => ?_)
        · refine aw_iconst C dX9_isWell_49 ki_1 ?_
          refine aw_goto (tgt := 54) C dX9_isWell_50 (by decide) ?_
          refine aw_istore_n (lv' := [(0, _), (1, _), (2, _), (3, _)]) C dX9_isWell_54 (i := 2) rfl (Nat.le_of_ble_eq_true rfl) rfl ?_
          refine aw_iinc_n (lv' := [(0, _), (1, _), (2, _), (3, _)]) C dX9_isWell_55 rfl ki_1 (Nat.le_of_ble_eq_true rfl) rfl ?_
          refine aw_goto (tgt := 4) C dX9_isWell_58 (by decide) ?_
          exact ih (k + 1) true (by omega) (by omega) (by unfold allB; rw [← iv1, h13]; unfold wlP; simp [h18])
        · refine aw_aload_n C dX9_isWell_21 (i := 0) rfl rfl ?_
          refine aw_iload_n C dX9_isWell_22 (i := 1) rfl rfl ?_
          refine aw_iload_n C dX9_isWell_23 (i := 3) rfl rfl ?_
          refine aw_iconst C dX9_isWell_24 ki_0 ?_
          refine aw_V3i (k := 0) C dX9_isWell_25 cv_X9_123 (by decide) rfl rfl rfl (cm_nearC hI (by omega) (by omega) hs hs2) ⟨Nat.le_of_ble_eq_true rfl, Nat.le_of_ble_eq_true rfl⟩ (Nat.le_of_ble_eq_true rfl) ?_
          have hnc : nrC h span i k ≤ span + 1 := cntB_le _ _
          refine aw_if_ne_n (tgt := 53) C dX9_isWell_28 (by decide) (by omega) (fun h28 => ?_) (fun h28 => ?_)
          · refine aw_iconst C dX9_isWell_53 ki_0 ?_
            refine aw_istore_n (lv' := [(0, _), (1, _), (2, _), (3, _)]) C dX9_isWell_54 (i := 2) rfl (Nat.le_of_ble_eq_true rfl) rfl ?_
            refine aw_iinc_n (lv' := [(0, _), (1, _), (2, _), (3, _)]) C dX9_isWell_55 rfl ki_1 (Nat.le_of_ble_eq_true rfl) rfl ?_
            refine aw_goto (tgt := 4) C dX9_isWell_58 (by decide) ?_
            exact ih (k + 1) false (by omega) (by omega) (by unfold allB; rw [← iv1, h13]; unfold wlP; simp [h18, Nat.ne_of_gt h28])
          · refine aw_aload_n C dX9_isWell_31 (i := 0) rfl rfl ?_
            refine aw_iload_n C dX9_isWell_32 (i := 1) rfl rfl ?_
            refine aw_iload_n C dX9_isWell_33 (i := 3) rfl rfl ?_
            refine aw_V2i (k := 0) C dX9_isWell_34 cv_X9_130 (by decide) rfl rfl rfl (cm_inWay hI (by omega) (by omega) hs hs2) ⟨Nat.le_of_ble_eq_true rfl, Nat.le_of_ble_eq_true rfl⟩ (Nat.le_of_ble_eq_true rfl) ?_
            refine aw_if_eq_b (tgt := 49) C dX9_isWell_37 (by decide) (fun h37 => ?_) (fun h37 => ?_)
            · refine aw_iconst C dX9_isWell_49 ki_1 ?_
              refine aw_goto (tgt := 54) C dX9_isWell_50 (by decide) ?_
              refine aw_istore_n (lv' := [(0, _), (1, _), (2, _), (3, _)]) C dX9_isWell_54 (i := 2) rfl (Nat.le_of_ble_eq_true rfl) rfl ?_
              refine aw_iinc_n (lv' := [(0, _), (1, _), (2, _), (3, _)]) C dX9_isWell_55 rfl ki_1 (Nat.le_of_ble_eq_true rfl) rfl ?_
              refine aw_goto (tgt := 4) C dX9_isWell_58 (by decide) ?_
              exact ih (k + 1) true (by omega) (by omega) (by unfold allB; rw [← iv1, h13]; unfold wlP; simp [h18, h28, h37])
            · refine aw_aload_n C dX9_isWell_40 (i := 0) rfl rfl ?_
              refine aw_iload_n C dX9_isWell_41 (i := 3) rfl rfl ?_
              refine aw_iload_n C dX9_isWell_42 (i := 1) rfl rfl ?_
              refine aw_V2i (k := 0) C dX9_isWell_43 cv_X9_130 (by decide) rfl rfl rfl (cm_inWay hI (by omega) (by omega) hs hs2) ⟨Nat.le_of_ble_eq_true rfl, Nat.le_of_ble_eq_true rfl⟩ (Nat.le_of_ble_eq_true rfl) ?_
              refine aw_if_ne_b (tgt := 53) C dX9_isWell_46 (by decide) (fun h46 => ?_) (fun h46 => ?_)
              · refine aw_iconst C dX9_isWell_53 ki_0 ?_
                refine aw_istore_n (lv' := [(0, _), (1, _), (2, _), (3, _)]) C dX9_isWell_54 (i := 2) rfl (Nat.le_of_ble_eq_true rfl) rfl ?_
                refine aw_iinc_n (lv' := [(0, _), (1, _), (2, _), (3, _)]) C dX9_isWell_55 rfl ki_1 (Nat.le_of_ble_eq_true rfl) rfl ?_
                refine aw_goto (tgt := 4) C dX9_isWell_58 (by decide) ?_
                exact ih (k + 1) false (by omega) (by omega) (by unfold allB; rw [← iv1, h13]; unfold wlP; simp [h18, h28, h37, h46])
              · refine aw_iconst C dX9_isWell_49 ki_1 ?_
                refine aw_goto (tgt := 54) C dX9_isWell_50 (by decide) ?_
                refine aw_istore_n (lv' := [(0, _), (1, _), (2, _), (3, _)]) C dX9_isWell_54 (i := 2) rfl (Nat.le_of_ble_eq_true rfl) rfl ?_
                refine aw_iinc_n (lv' := [(0, _), (1, _), (2, _), (3, _)]) C dX9_isWell_55 rfl ki_1 (Nat.le_of_ble_eq_true rfl) rfl ?_
                refine aw_goto (tgt := 4) C dX9_isWell_58 (by decide) ?_
                exact ih (k + 1) true (by omega) (by omega) (by unfold allB; rw [← iv1, h13]; unfold wlP; simp [h18, h28, h37, h46])
set_option maxRecDepth 20000 in
/-- isWell -/
theorem cm_isWell {l : Launch} {D : va_G} {cy : Nat → ClassId} {z : Nat → Nat} {q : Nat → Nat} (hI : wI 9 q) {len span wires chg rsp rwi val ends : Nat} {text : Nat → Nat} {h was rd eyes fw bars ways : Nat → Int32} {i : Nat} (hi : i < wires) (hs : 8 ≤ span) (hs2 : span ≤ 40) (hw : wires ≤ 8) : Ct l yX9_isWell cX9_isWell 4 (some .boolean) 3 75 D cy z 9 q [.ref (q 0), .int (nI i)] (mdC cy q len span wires chg rsp rwi val ends text h was rd eyes fw bars ways) (PI (bi (welB h span wires i)) (mdC cy q len span wires chg rsp rwi val ends text h was rd eyes fw bars ways)) := by
  refine Ct.of (own := RX9) (by decide) rfl hI (Nat.le_of_ble_eq_true rfl) ?_
  intro p e s m args below meth c C hr
  refine aw_lv (lv' := [(0, .ref (q 0)), (1, .int (nI i))]) (fun x hx => hx) ?_
  refine aw_iconst C dX9_isWell_0 ki_1 ?_
  refine aw_istore_n (lv' := [(0, _), (1, _), (2, _)]) C dX9_isWell_1 (i := 2) rfl (Nat.le_of_ble_eq_true rfl) rfl ?_
  refine aw_iconst C dX9_isWell_2 ki_0 ?_
  refine aw_istore_n (lv' := [(0, _), (1, _), (2, _), (3, _)]) C dX9_isWell_3 (i := 3) rfl (Nat.le_of_ble_eq_true rfl) rfl ?_
  exact cm_isWell_l hI C hr hi hs hs2 hw (wires + 1) 0 true (by omega) (by omega) rfl
set_option maxRecDepth 20000 in
/-- loopOf, from 173 on -/
theorem cm_loopOf_e {l : Launch} {D : va_G} {cy : Nat → ClassId} {z : Nat → Nat} {q : Nat → Nat} {p : Program} {e : Env} {s : State} {m : MethodId} {args : Array Value} {below : List Frame} {meth : Method} {c : Code} (hI : wI 9 q) (C : Cx p s m args meth c cX9_loopOf 9 RX9 D cy z 9 q) (hr : meth.sig.returnType = (some .int)) {len span wires chg rsp rwi val ends : Nat} {text : Nat → Nat} {h was rd eyes fw bars ways : Nat → Int32} {i : Nat} (hi : i < wires) {a b x : Int32} (hs : 8 ≤ span) (hs2 : span ≤ 40) (hw : wires ≤ 8) : AW p l e { frames := 4, cells := 0, slots := 0, locals := 98 } s m args below meth c D 9 q 9 (MQ below (Qg D 9 q (PI x (mdC cy q len span wires chg rsp rwi val ends text h was rd eyes fw bars ways)) (wA 9 q s.heap.size)) args s 0 0 (wA 9 q s.heap.size)) (mdC cy q len span wires chg rsp rwi val ends text (hqs h i a b) was rd eyes fw bars ways) [(0, .ref (q 0)), (1, .int (nI i)), (2, .int (h (5 * i + 3))), (3, .int (h (5 * i + 4))), (4, .int x)] 173 [] := by
  refine aw_aload_n C dX9_loopOf_173 (i := 0) rfl rfl ?_
  refine aw_get (k := 0) C dX9_loopOf_174 fl_X9_13 (by decide) rfl rfl ?_
  refine aw_iconst C dX9_loopOf_177 ki_5 ?_
  refine aw_iload_n C dX9_loopOf_178 (i := 1) rfl rfl ?_
  refine aw_imul_n C dX9_loopOf_179 ?_
  refine aw_iconst C dX9_loopOf_180 ki_3 ?_
  refine aw_iadd_n C dX9_loopOf_181 ?_
  refine aw_iload_n C dX9_loopOf_182 (i := 2) rfl rfl ?_
  refine aw_iast (k := 2) C dX9_loopOf_183 (by decide) (rfl) (rfl) (by omega) (by decide) (md_a_h) ?_
  refine aw_aload_n C dX9_loopOf_184 (i := 0) rfl rfl ?_
  refine aw_get (k := 0) C dX9_loopOf_185 fl_X9_13 (by decide) rfl rfl ?_
  refine aw_iconst C dX9_loopOf_188 ki_5 ?_
  refine aw_iload_n C dX9_loopOf_189 (i := 1) rfl rfl ?_
  refine aw_imul_n C dX9_loopOf_190 ?_
  refine aw_iconst C dX9_loopOf_191 ki_4 ?_
  refine aw_iadd_n C dX9_loopOf_192 ?_
  refine aw_iload_n C dX9_loopOf_193 (i := 3) rfl rfl ?_
  refine aw_iast (k := 2) C dX9_loopOf_194 (by decide) (rfl) (rfl) (by omega) (by decide) (md_a_h) ?_
  refine aw_iload C dX9_loopOf_195 rfl ?_
  refine aw_iret C hr dX9_loopOf_197 ?_
  exact PI.mk rfl (by rw [hqs_3, hqs_4, hqs_id rfl rfl])
set_option maxRecDepth 20000 in
/-- loopOf, from 29 on -/
theorem cm_loopOf_f29 {l : Launch} {D : va_G} {cy : Nat → ClassId} {z : Nat → Nat} {q : Nat → Nat} {p : Program} {e : Env} {s : State} {m : MethodId} {args : Array Value} {below : List Frame} {meth : Method} {c : Code} (hI : wI 9 q) (C : Cx p s m args meth c cX9_loopOf 9 RX9 D cy z 9 q) (hr : meth.sig.returnType = (some .int)) {len span wires chg rsp rwi val ends : Nat} {text : Nat → Nat} {h was rd eyes fw bars ways : Nat → Int32} {i : Nat} (hi : i < wires) {a b x : Int32} {u : Nat} (hu : u ≤ 100) (hx : 0 ≤ x) (hs : 8 ≤ span) (hs2 : span ≤ 40) (hw : wires ≤ 8) : AW p l e { frames := 4, cells := 0, slots := 0, locals := 98 } s m args below meth c D 9 q 9 (MQ below (Qg D 9 q (PI x (mdC cy q len span wires chg rsp rwi val ends text h was rd eyes fw bars ways)) (wA 9 q s.heap.size)) args s 0 0 (wA 9 q s.heap.size)) (mdC cy q len span wires chg rsp rwi val ends text (hqs h i a b) was rd eyes fw bars ways) [(0, .ref (q 0)), (1, .int (nI i)), (2, .int (h (5 * i + 3))), (3, .int (h (5 * i + 4))), (4, .int x), (5, .int (nI u))] 29 [] := by
  refine aw_iload C dX9_loopOf_29 rfl ?_
  refine aw_bipush C dX9_loopOf_31 kb_40 ?_
  refine aw_icmp_ge_n (tgt := 173) C dX9_loopOf_33 (by decide) (by omega) (by omega) (fun h33 => ?_) (fun h33 => ?_)
  · refine aw_take 5 (lv' := [(0, _), (1, _), (2, _), (3, _), (4, _)]) rfl ?_
    exact cm_loopOf_e hI C hr hi hs hs2 hw
  · refine aw_iload C dX9_loopOf_36 rfl ?_
    refine aw_if_ge (tgt := 173) C dX9_loopOf_38 (by decide) (fun h38 => ?_) (fun h38 => absurd hx h38)
    refine aw_take 5 (lv' := [(0, _), (1, _), (2, _), (3, _), (4, _)]) rfl ?_
    exact cm_loopOf_e hI C hr hi hs hs2 hw
set_option maxRecDepth 20000 in
/-- loopOf, from 44 on -/
theorem cm_loopOf_f44 {l : Launch} {D : va_G} {cy : Nat → ClassId} {z : Nat → Nat} {q : Nat → Nat} {p : Program} {e : Env} {s : State} {m : MethodId} {args : Array Value} {below : List Frame} {meth : Method} {c : Code} (hI : wI 9 q) (C : Cx p s m args meth c cX9_loopOf 9 RX9 D cy z 9 q) (hr : meth.sig.returnType = (some .int)) {len span wires chg rsp rwi val ends : Nat} {text : Nat → Nat} {h was rd eyes fw bars ways : Nat → Int32} {i : Nat} (hi : i < wires) {a b x : Int32} {u n : Nat} (hu : u ≤ 99) (hn : n ≤ 100) (hx : 0 ≤ x) (hs : 8 ≤ span) (hs2 : span ≤ 40) (hw : wires ≤ 8) : AW p l e { frames := 4, cells := 0, slots := 0, locals := 98 } s m args below meth c D 9 q 9 (MQ below (Qg D 9 q (PI x (mdC cy q len span wires chg rsp rwi val ends text h was rd eyes fw bars ways)) (wA 9 q s.heap.size)) args s 0 0 (wA 9 q s.heap.size)) (mdC cy q len span wires chg rsp rwi val ends text (hqs h i a b) was rd eyes fw bars ways) [(0, .ref (q 0)), (1, .int (nI i)), (2, .int (h (5 * i + 3))), (3, .int (h (5 * i + 4))), (4, .int x), (5, .int (nI u)), (6, .int (nI n))] 44 [] := by
  refine aw_iload C dX9_loopOf_44 rfl ?_
  refine aw_iconst C dX9_loopOf_46 ki_4 ?_
  refine aw_icmp_ge_n (tgt := 167) C dX9_loopOf_47 (by decide) (by omega) (by omega) (fun h47 => ?_) (fun h47 => ?_)
  · refine aw_iinc_n (lv' := [(0, _), (1, _), (2, _), (3, _), (4, _), (5, _), (6, _)]) C dX9_loopOf_167 rfl ki_1 (Nat.le_of_ble_eq_true rfl) rfl ?_
    refine aw_goto (tgt := 29) C dX9_loopOf_170 (by decide) ?_
    refine aw_take 6 (lv' := [(0, _), (1, _), (2, _), (3, _), (4, _), (5, _)]) rfl ?_
    exact cm_loopOf_f29 hI C hr hi (by omega) hx hs hs2 hw
  · refine aw_iload C dX9_loopOf_50 rfl ?_
    refine aw_if_ge (tgt := 167) C dX9_loopOf_52 (by decide) (fun h52 => ?_) (fun h52 => absurd hx h52)
    refine aw_iinc_n (lv' := [(0, _), (1, _), (2, _), (3, _), (4, _), (5, _), (6, _)]) C dX9_loopOf_167 rfl ki_1 (Nat.le_of_ble_eq_true rfl) rfl ?_
    refine aw_goto (tgt := 29) C dX9_loopOf_170 (by decide) ?_
    refine aw_take 6 (lv' := [(0, _), (1, _), (2, _), (3, _), (4, _), (5, _)]) rfl ?_
    exact cm_loopOf_f29 hI C hr hi (by omega) hx hs hs2 hw
set_option maxRecDepth 20000 in
/-- loopOf, from 81 on -/
theorem cm_loopOf_f81 {l : Launch} {D : va_G} {cy : Nat → ClassId} {z : Nat → Nat} {q : Nat → Nat} {p : Program} {e : Env} {s : State} {m : MethodId} {args : Array Value} {below : List Frame} {meth : Method} {c : Code} (hI : wI 9 q) (C : Cx p s m args meth c cX9_loopOf 9 RX9 D cy z 9 q) (hr : meth.sig.returnType = (some .int)) {len span wires chg rsp rwi val ends : Nat} {text : Nat → Nat} {h was rd eyes fw bars ways : Nat → Int32} {i : Nat} (hi : i < wires) {a b x y : Int32} {u n : Nat} (hu : u ≤ 99) (hn : n ≤ 99) (hx : 0 ≤ x) (hs : 8 ≤ span) (hs2 : span ≤ 40) (hw : wires ≤ 8) : AW p l e { frames := 4, cells := 0, slots := 0, locals := 98 } s m args below meth c D 9 q 9 (MQ below (Qg D 9 q (PI x (mdC cy q len span wires chg rsp rwi val ends text h was rd eyes fw bars ways)) (wA 9 q s.heap.size)) args s 0 0 (wA 9 q s.heap.size)) (mdC cy q len span wires chg rsp rwi val ends text (hqs h i a b) was rd eyes fw bars ways) [(0, .ref (q 0)), (1, .int (nI i)), (2, .int (h (5 * i + 3))), (3, .int (h (5 * i + 4))), (4, .int x), (5, .int (nI u)), (6, .int (nI n)), (7, .int y)] 81 [] := by
  refine aw_iload C dX9_loopOf_81 rfl ?_
  refine aw_iconst C dX9_loopOf_83 ki_2 ?_
  refine aw_icmp_ge (tgt := 161) C dX9_loopOf_84 (by decide) (fun h84 => ?_) (fun h84 => ?_)
  · refine aw_iinc_n (lv' := [(0, _), (1, _), (2, _), (3, _), (4, _), (5, _), (6, _), (7, _)]) C dX9_loopOf_161 rfl ki_1 (Nat.le_of_ble_eq_true rfl) rfl ?_
    refine aw_goto (tgt := 44) C dX9_loopOf_164 (by decide) ?_
    refine aw_take 7 (lv' := [(0, _), (1, _), (2, _), (3, _), (4, _), (5, _), (6, _)]) rfl ?_
    exact cm_loopOf_f44 hI C hr hi (by omega) (by omega) hx hs hs2 hw
  · refine aw_iload C dX9_loopOf_87 rfl ?_
    refine aw_if_ge (tgt := 161) C dX9_loopOf_89 (by decide) (fun h89 => ?_) (fun h89 => absurd hx h89)
    refine aw_iinc_n (lv' := [(0, _), (1, _), (2, _), (3, _), (4, _), (5, _), (6, _), (7, _)]) C dX9_loopOf_161 rfl ki_1 (Nat.le_of_ble_eq_true rfl) rfl ?_
    refine aw_goto (tgt := 44) C dX9_loopOf_164 (by decide) ?_
    refine aw_take 7 (lv' := [(0, _), (1, _), (2, _), (3, _), (4, _), (5, _), (6, _)]) rfl ?_
    exact cm_loopOf_f44 hI C hr hi (by omega) (by omega) hx hs hs2 hw
set_option maxRecDepth 20000 in
/-- loopOf, from 81 on -/
theorem cm_loopOf_sm {l : Launch} {D : va_G} {cy : Nat → ClassId} {z : Nat → Nat} {q : Nat → Nat} {p : Program} {e : Env} {s : State} {m : MethodId} {args : Array Value} {below : List Frame} {meth : Method} {c : Code} (hI : wI 9 q) (C : Cx p s m args meth c cX9_loopOf 9 RX9 D cy z 9 q) (hr : meth.sig.returnType = (some .int)) {len span wires chg rsp rwi val ends : Nat} {text : Nat → Nat} {h was rd eyes fw bars ways : Nat → Int32} {i : Nat} (hi : i < wires) {b : Int32} {u n t : Nat} (hu : u < 40) (hn : n < 4) (ht : t ≤ 2) (hsh : (shN (h (5 * i + 3)) n) = nI t) (hs : 8 ≤ span) (hs2 : span ≤ 40) (hw : wires ≤ 8) (hFound : ∀ x, c1 h span wires i (shN (h (5 * i + 3)) n) (h (5 * i + 4) + (-1) * nI u) = some x → lpI h span wires i = x) (hFail : c1 h span wires i (shN (h (5 * i + 3)) n) (h (5 * i + 4) + (-1) * nI u) = none → AW p l e { frames := 4, cells := 0, slots := 0, locals := 98 } s m args below meth c D 9 q 9 (MQ below (Qg D 9 q (PI (lpI h span wires i) (mdC cy q len span wires chg rsp rwi val ends text h was rd eyes fw bars ways)) (wA 9 q s.heap.size)) args s 0 0 (wA 9 q s.heap.size)) (mdC cy q len span wires chg rsp rwi val ends text (hqs h i (shN (h (5 * i + 3)) n) (h (5 * i + 4) + (-1) * nI u)) was rd eyes fw bars ways) [(0, .ref (q 0)), (1, .int (nI i)), (2, .int (h (5 * i + 3))), (3, .int (h (5 * i + 4))), (4, .int (-4)), (5, .int (nI u)), (6, .int (nI n)), (7, .int ((-1) + nI 2))] 81 []) : AW p l e { frames := 4, cells := 0, slots := 0, locals := 98 } s m args below meth c D 9 q 9 (MQ below (Qg D 9 q (PI (lpI h span wires i) (mdC cy q len span wires chg rsp rwi val ends text h was rd eyes fw bars ways)) (wA 9 q s.heap.size)) args s 0 0 (wA 9 q s.heap.size)) (mdC cy q len span wires chg rsp rwi val ends text (hqs h i (shN (h (5 * i + 3)) n) b) was rd eyes fw bars ways) [(0, .ref (q 0)), (1, .int (nI i)), (2, .int (h (5 * i + 3))), (3, .int (h (5 * i + 4))), (4, .int (-4)), (5, .int (nI u)), (6, .int (nI n)), (7, .int (-1))] 81 [] := by
  refine aw_iload C dX9_loopOf_81 rfl ?_
  refine aw_iconst C dX9_loopOf_83 ki_2 ?_
  refine aw_icmp_ge (tgt := 161) C dX9_loopOf_84 (by decide) (fun h84 => absurd h84 (by decide)) (fun h84 => ?_)
  refine aw_iload C dX9_loopOf_87 rfl ?_
  refine aw_if_ge (tgt := 161) C dX9_loopOf_89 (by decide) (fun h89 => absurd h89 (by decide)) (fun h89 => ?_)
  refine aw_iload_n C dX9_loopOf_92 (i := 3) rfl rfl ?_
  refine aw_iload C dX9_loopOf_93 rfl ?_
  refine aw_iload C dX9_loopOf_95 rfl ?_
  refine aw_imul C dX9_loopOf_97 ?_
  refine aw_iadd C dX9_loopOf_98 ?_
  refine aw_istore (lv' := [(0, _), (1, _), (2, _), (3, _), (4, _), (5, _), (6, _), (7, _), (8, _)]) C dX9_loopOf_99 (Nat.le_of_ble_eq_true rfl) rfl ?_
  refine aw_aload_n C dX9_loopOf_101 (i := 0) rfl rfl ?_
  refine aw_get (k := 0) C dX9_loopOf_102 fl_X9_13 (by decide) rfl rfl ?_
  refine aw_iconst C dX9_loopOf_105 ki_5 ?_
  refine aw_iload_n C dX9_loopOf_106 (i := 1) rfl rfl ?_
  refine aw_imul_n C dX9_loopOf_107 ?_
  refine aw_iconst C dX9_loopOf_108 ki_4 ?_
  refine aw_iadd_n C dX9_loopOf_109 ?_
  refine aw_iload C dX9_loopOf_110 rfl ?_
  refine aw_iast (k := 2) C dX9_loopOf_112 (by decide) (rfl) (rfl) (by omega) (by decide) (md_a_h) ?_
  rw [hqs_4]
  refine aw_iload C dX9_loopOf_113 rfl ?_
  refine aw_iconst C dX9_loopOf_115 ki_1 ?_
  refine aw_bipush C dX9_loopOf_116 kb_40 ?_
  refine aw_S3i C dX9_loopOf_118 cs_X9_54 (cm_isIn hI) ⟨Nat.le_of_ble_eq_true rfl, Nat.le_of_ble_eq_true rfl⟩ (Nat.le_of_ble_eq_true rfl) ?_
  refine aw_if_eq_b (tgt := 151) C dX9_loopOf_121 (by decide) (fun h121 => ?_) (fun h121 => ?_)
  · refine aw_bipush C dX9_loopOf_151 kb_m4 ?_
    refine aw_istore (lv' := [(0, _), (1, _), (2, _), (3, _), (4, _), (5, _), (6, _), (7, _), (8, _)]) C dX9_loopOf_153 (Nat.le_of_ble_eq_true rfl) rfl ?_
    refine aw_iinc (lv' := [(0, _), (1, _), (2, _), (3, _), (4, _), (5, _), (6, _), (7, _), (8, _)]) C dX9_loopOf_155 rfl ki_2 (Nat.le_of_ble_eq_true rfl) rfl ?_
    refine aw_goto (tgt := 81) C dX9_loopOf_158 (by decide) ?_
    refine aw_take 8 (lv' := [(0, _), (1, _), (2, _), (3, _), (4, _), (5, _), (6, _), (7, _)]) rfl ?_
    exact hFail (c1_f1 h121)
  · refine aw_aload_n C dX9_loopOf_124 (i := 0) rfl rfl ?_
    refine aw_iload_n C dX9_loopOf_125 (i := 1) rfl rfl ?_
    refine aw_V1i (k := 0) C dX9_loopOf_126 cv_X9_151 (by decide) rfl rfl rfl (cm_isWell hI hi hs hs2 hw) ⟨Nat.le_of_ble_eq_true rfl, Nat.le_of_ble_eq_true rfl⟩ (Nat.le_of_ble_eq_true rfl) ?_
    refine aw_if_eq_b (tgt := 151) C dX9_loopOf_129 (by decide) (fun h129 => ?_) (fun h129 => ?_)
    · refine aw_bipush C dX9_loopOf_151 kb_m4 ?_
      refine aw_istore (lv' := [(0, _), (1, _), (2, _), (3, _), (4, _), (5, _), (6, _), (7, _), (8, _)]) C dX9_loopOf_153 (Nat.le_of_ble_eq_true rfl) rfl ?_
      refine aw_iinc (lv' := [(0, _), (1, _), (2, _), (3, _), (4, _), (5, _), (6, _), (7, _), (8, _)]) C dX9_loopOf_155 rfl ki_2 (Nat.le_of_ble_eq_true rfl) rfl ?_
      refine aw_goto (tgt := 81) C dX9_loopOf_158 (by decide) ?_
      refine aw_take 8 (lv' := [(0, _), (1, _), (2, _), (3, _), (4, _), (5, _), (6, _), (7, _)]) rfl ?_
      exact hFail (c1_f2 h121 h129)
    · refine aw_bipush C dX9_loopOf_132 kb_100 ?_
      refine aw_aload_n C dX9_loopOf_134 (i := 0) rfl rfl ?_
      refine aw_get (k := 0) C dX9_loopOf_135 fl_X9_13 (by decide) rfl rfl ?_
      refine aw_iconst C dX9_loopOf_138 ki_5 ?_
      refine aw_iload_n C dX9_loopOf_139 (i := 1) rfl rfl ?_
      refine aw_imul_n C dX9_loopOf_140 ?_
      refine aw_iconst C dX9_loopOf_141 ki_3 ?_
      refine aw_iadd_n C dX9_loopOf_142 ?_
      refine aw_iald (k := 2) C dX9_loopOf_143 (by decide) (rfl) (rfl) (by omega) (by decide) (hqs_at3) ?_
      refine aw_imul C dX9_loopOf_144 ?_
      refine aw_iload C dX9_loopOf_145 rfl ?_
      refine aw_iadd C dX9_loopOf_147 ?_
      refine aw_goto (tgt := 153) C dX9_loopOf_148 (by decide) ?_
      refine aw_istore (lv' := [(0, _), (1, _), (2, _), (3, _), (4, _), (5, _), (6, _), (7, _), (8, _)]) C dX9_loopOf_153 (Nat.le_of_ble_eq_true rfl) rfl ?_
      refine aw_iinc (lv' := [(0, _), (1, _), (2, _), (3, _), (4, _), (5, _), (6, _), (7, _), (8, _)]) C dX9_loopOf_155 rfl ki_2 (Nat.le_of_ble_eq_true rfl) rfl ?_
      refine aw_goto (tgt := 81) C dX9_loopOf_158 (by decide) ?_
      refine aw_take 8 (lv' := [(0, _), (1, _), (2, _), (3, _), (4, _), (5, _), (6, _), (7, _)]) rfl ?_
      have e9 : c1 h span wires i (shN (h (5 * i + 3)) n) (h (5 * i + 4) + (-1) * nI u) = some (nI 100 * (shN (h (5 * i + 3)) n) + (h (5 * i + 4) + (-1) * nI u)) := c1_t h121 h129
      rw [hFound _ e9]
      exact cm_loopOf_f81 hI C hr hi (by omega) (by omega) (by rw [hsh]; exact fnd_ge ht h121) hs hs2 hw
set_option maxRecDepth 20000 in
/-- loopOf, from 81 on -/
theorem cm_loopOf_sp {l : Launch} {D : va_G} {cy : Nat → ClassId} {z : Nat → Nat} {q : Nat → Nat} {p : Program} {e : Env} {s : State} {m : MethodId} {args : Array Value} {below : List Frame} {meth : Method} {c : Code} (hI : wI 9 q) (C : Cx p s m args meth c cX9_loopOf 9 RX9 D cy z 9 q) (hr : meth.sig.returnType = (some .int)) {len span wires chg rsp rwi val ends : Nat} {text : Nat → Nat} {h was rd eyes fw bars ways : Nat → Int32} {i : Nat} (hi : i < wires) {b : Int32} {u n t : Nat} (hu : u < 40) (hn : n < 4) (ht : t ≤ 2) (hsh : (shN (h (5 * i + 3)) n) = nI t) (hs : 8 ≤ span) (hs2 : span ≤ 40) (hw : wires ≤ 8) (hFound : ∀ x, c1 h span wires i (shN (h (5 * i + 3)) n) (h (5 * i + 4) + (nI 1) * nI u) = some x → lpI h span wires i = x) (hFail : c1 h span wires i (shN (h (5 * i + 3)) n) (h (5 * i + 4) + (nI 1) * nI u) = none → AW p l e { frames := 4, cells := 0, slots := 0, locals := 98 } s m args below meth c D 9 q 9 (MQ below (Qg D 9 q (PI (lpI h span wires i) (mdC cy q len span wires chg rsp rwi val ends text h was rd eyes fw bars ways)) (wA 9 q s.heap.size)) args s 0 0 (wA 9 q s.heap.size)) (mdC cy q len span wires chg rsp rwi val ends text (hqs h i (shN (h (5 * i + 3)) n) (h (5 * i + 4) + (nI 1) * nI u)) was rd eyes fw bars ways) [(0, .ref (q 0)), (1, .int (nI i)), (2, .int (h (5 * i + 3))), (3, .int (h (5 * i + 4))), (4, .int (-4)), (5, .int (nI u)), (6, .int (nI n)), (7, .int ((nI 1) + nI 2))] 81 []) : AW p l e { frames := 4, cells := 0, slots := 0, locals := 98 } s m args below meth c D 9 q 9 (MQ below (Qg D 9 q (PI (lpI h span wires i) (mdC cy q len span wires chg rsp rwi val ends text h was rd eyes fw bars ways)) (wA 9 q s.heap.size)) args s 0 0 (wA 9 q s.heap.size)) (mdC cy q len span wires chg rsp rwi val ends text (hqs h i (shN (h (5 * i + 3)) n) b) was rd eyes fw bars ways) [(0, .ref (q 0)), (1, .int (nI i)), (2, .int (h (5 * i + 3))), (3, .int (h (5 * i + 4))), (4, .int (-4)), (5, .int (nI u)), (6, .int (nI n)), (7, .int (nI 1))] 81 [] := by
  refine aw_iload C dX9_loopOf_81 rfl ?_
  refine aw_iconst C dX9_loopOf_83 ki_2 ?_
  refine aw_icmp_ge (tgt := 161) C dX9_loopOf_84 (by decide) (fun h84 => absurd h84 (by decide)) (fun h84 => ?_)
  refine aw_iload C dX9_loopOf_87 rfl ?_
  refine aw_if_ge (tgt := 161) C dX9_loopOf_89 (by decide) (fun h89 => absurd h89 (by decide)) (fun h89 => ?_)
  refine aw_iload_n C dX9_loopOf_92 (i := 3) rfl rfl ?_
  refine aw_iload C dX9_loopOf_93 rfl ?_
  refine aw_iload C dX9_loopOf_95 rfl ?_
  refine aw_imul C dX9_loopOf_97 ?_
  refine aw_iadd C dX9_loopOf_98 ?_
  refine aw_istore (lv' := [(0, _), (1, _), (2, _), (3, _), (4, _), (5, _), (6, _), (7, _), (8, _)]) C dX9_loopOf_99 (Nat.le_of_ble_eq_true rfl) rfl ?_
  refine aw_aload_n C dX9_loopOf_101 (i := 0) rfl rfl ?_
  refine aw_get (k := 0) C dX9_loopOf_102 fl_X9_13 (by decide) rfl rfl ?_
  refine aw_iconst C dX9_loopOf_105 ki_5 ?_
  refine aw_iload_n C dX9_loopOf_106 (i := 1) rfl rfl ?_
  refine aw_imul_n C dX9_loopOf_107 ?_
  refine aw_iconst C dX9_loopOf_108 ki_4 ?_
  refine aw_iadd_n C dX9_loopOf_109 ?_
  refine aw_iload C dX9_loopOf_110 rfl ?_
  refine aw_iast (k := 2) C dX9_loopOf_112 (by decide) (rfl) (rfl) (by omega) (by decide) (md_a_h) ?_
  rw [hqs_4]
  refine aw_iload C dX9_loopOf_113 rfl ?_
  refine aw_iconst C dX9_loopOf_115 ki_1 ?_
  refine aw_bipush C dX9_loopOf_116 kb_40 ?_
  refine aw_S3i C dX9_loopOf_118 cs_X9_54 (cm_isIn hI) ⟨Nat.le_of_ble_eq_true rfl, Nat.le_of_ble_eq_true rfl⟩ (Nat.le_of_ble_eq_true rfl) ?_
  refine aw_if_eq_b (tgt := 151) C dX9_loopOf_121 (by decide) (fun h121 => ?_) (fun h121 => ?_)
  · refine aw_bipush C dX9_loopOf_151 kb_m4 ?_
    refine aw_istore (lv' := [(0, _), (1, _), (2, _), (3, _), (4, _), (5, _), (6, _), (7, _), (8, _)]) C dX9_loopOf_153 (Nat.le_of_ble_eq_true rfl) rfl ?_
    refine aw_iinc (lv' := [(0, _), (1, _), (2, _), (3, _), (4, _), (5, _), (6, _), (7, _), (8, _)]) C dX9_loopOf_155 rfl ki_2 (Nat.le_of_ble_eq_true rfl) rfl ?_
    refine aw_goto (tgt := 81) C dX9_loopOf_158 (by decide) ?_
    refine aw_take 8 (lv' := [(0, _), (1, _), (2, _), (3, _), (4, _), (5, _), (6, _), (7, _)]) rfl ?_
    exact hFail (c1_f1 h121)
  · refine aw_aload_n C dX9_loopOf_124 (i := 0) rfl rfl ?_
    refine aw_iload_n C dX9_loopOf_125 (i := 1) rfl rfl ?_
    refine aw_V1i (k := 0) C dX9_loopOf_126 cv_X9_151 (by decide) rfl rfl rfl (cm_isWell hI hi hs hs2 hw) ⟨Nat.le_of_ble_eq_true rfl, Nat.le_of_ble_eq_true rfl⟩ (Nat.le_of_ble_eq_true rfl) ?_
    refine aw_if_eq_b (tgt := 151) C dX9_loopOf_129 (by decide) (fun h129 => ?_) (fun h129 => ?_)
    · refine aw_bipush C dX9_loopOf_151 kb_m4 ?_
      refine aw_istore (lv' := [(0, _), (1, _), (2, _), (3, _), (4, _), (5, _), (6, _), (7, _), (8, _)]) C dX9_loopOf_153 (Nat.le_of_ble_eq_true rfl) rfl ?_
      refine aw_iinc (lv' := [(0, _), (1, _), (2, _), (3, _), (4, _), (5, _), (6, _), (7, _), (8, _)]) C dX9_loopOf_155 rfl ki_2 (Nat.le_of_ble_eq_true rfl) rfl ?_
      refine aw_goto (tgt := 81) C dX9_loopOf_158 (by decide) ?_
      refine aw_take 8 (lv' := [(0, _), (1, _), (2, _), (3, _), (4, _), (5, _), (6, _), (7, _)]) rfl ?_
      exact hFail (c1_f2 h121 h129)
    · refine aw_bipush C dX9_loopOf_132 kb_100 ?_
      refine aw_aload_n C dX9_loopOf_134 (i := 0) rfl rfl ?_
      refine aw_get (k := 0) C dX9_loopOf_135 fl_X9_13 (by decide) rfl rfl ?_
      refine aw_iconst C dX9_loopOf_138 ki_5 ?_
      refine aw_iload_n C dX9_loopOf_139 (i := 1) rfl rfl ?_
      refine aw_imul_n C dX9_loopOf_140 ?_
      refine aw_iconst C dX9_loopOf_141 ki_3 ?_
      refine aw_iadd_n C dX9_loopOf_142 ?_
      refine aw_iald (k := 2) C dX9_loopOf_143 (by decide) (rfl) (rfl) (by omega) (by decide) (hqs_at3) ?_
      refine aw_imul C dX9_loopOf_144 ?_
      refine aw_iload C dX9_loopOf_145 rfl ?_
      refine aw_iadd C dX9_loopOf_147 ?_
      refine aw_goto (tgt := 153) C dX9_loopOf_148 (by decide) ?_
      refine aw_istore (lv' := [(0, _), (1, _), (2, _), (3, _), (4, _), (5, _), (6, _), (7, _), (8, _)]) C dX9_loopOf_153 (Nat.le_of_ble_eq_true rfl) rfl ?_
      refine aw_iinc (lv' := [(0, _), (1, _), (2, _), (3, _), (4, _), (5, _), (6, _), (7, _), (8, _)]) C dX9_loopOf_155 rfl ki_2 (Nat.le_of_ble_eq_true rfl) rfl ?_
      refine aw_goto (tgt := 81) C dX9_loopOf_158 (by decide) ?_
      refine aw_take 8 (lv' := [(0, _), (1, _), (2, _), (3, _), (4, _), (5, _), (6, _), (7, _)]) rfl ?_
      have e9 : c1 h span wires i (shN (h (5 * i + 3)) n) (h (5 * i + 4) + (nI 1) * nI u) = some (nI 100 * (shN (h (5 * i + 3)) n) + (h (5 * i + 4) + (nI 1) * nI u)) := c1_t h121 h129
      rw [hFound _ e9]
      exact cm_loopOf_f81 hI C hr hi (by omega) (by omega) (by rw [hsh]; exact fnd_ge ht h121) hs hs2 hw
set_option maxRecDepth 20000 in
/-- loopOf, from 81 on -/
theorem cm_loopOf_x {l : Launch} {D : va_G} {cy : Nat → ClassId} {z : Nat → Nat} {q : Nat → Nat} {p : Program} {e : Env} {s : State} {m : MethodId} {args : Array Value} {below : List Frame} {meth : Method} {c : Code} (hI : wI 9 q) (C : Cx p s m args meth c cX9_loopOf 9 RX9 D cy z 9 q) (hr : meth.sig.returnType = (some .int)) {len span wires chg rsp rwi val ends : Nat} {text : Nat → Nat} {h was rd eyes fw bars ways : Nat → Int32} {i : Nat} (hi : i < wires) {a b : Int32} {u n : Nat} (hu : u < 40) (hn : n < 4) (hs : 8 ≤ span) (hs2 : span ≤ 40) (hw : wires ≤ 8) (hK : AW p l e { frames := 4, cells := 0, slots := 0, locals := 98 } s m args below meth c D 9 q 9 (MQ below (Qg D 9 q (PI (lpI h span wires i) (mdC cy q len span wires chg rsp rwi val ends text h was rd eyes fw bars ways)) (wA 9 q s.heap.size)) args s 0 0 (wA 9 q s.heap.size)) (mdC cy q len span wires chg rsp rwi val ends text (hqs h i a b) was rd eyes fw bars ways) [(0, .ref (q 0)), (1, .int (nI i)), (2, .int (h (5 * i + 3))), (3, .int (h (5 * i + 4))), (4, .int (-4)), (5, .int (nI u)), (6, .int (nI (n + 1)))] 44 []) : AW p l e { frames := 4, cells := 0, slots := 0, locals := 98 } s m args below meth c D 9 q 9 (MQ below (Qg D 9 q (PI (lpI h span wires i) (mdC cy q len span wires chg rsp rwi val ends text h was rd eyes fw bars ways)) (wA 9 q s.heap.size)) args s 0 0 (wA 9 q s.heap.size)) (mdC cy q len span wires chg rsp rwi val ends text (hqs h i a b) was rd eyes fw bars ways) [(0, .ref (q 0)), (1, .int (nI i)), (2, .int (h (5 * i + 3))), (3, .int (h (5 * i + 4))), (4, .int (-4)), (5, .int (nI u)), (6, .int (nI n)), (7, .int (nI 1 + nI 2))] 81 [] := by
  refine aw_iload C dX9_loopOf_81 rfl ?_
  refine aw_iconst C dX9_loopOf_83 ki_2 ?_
  refine aw_icmp_ge (tgt := 161) C dX9_loopOf_84 (by decide) (fun h84 => ?_) (fun h84 => absurd (by decide) h84)
  refine aw_iinc_n (lv' := [(0, _), (1, _), (2, _), (3, _), (4, _), (5, _), (6, _), (7, _)]) C dX9_loopOf_161 rfl ki_1 (Nat.le_of_ble_eq_true rfl) rfl ?_
  refine aw_goto (tgt := 44) C dX9_loopOf_164 (by decide) ?_
  refine aw_take 7 (lv' := [(0, _), (1, _), (2, _), (3, _), (4, _), (5, _), (6, _)]) rfl ?_
  exact hK
set_option maxRecDepth 20000 in
/-- loopOf, its loop -/
theorem cm_loopOf_n {l : Launch} {D : va_G} {cy : Nat → ClassId} {z : Nat → Nat} {q : Nat → Nat} {p : Program} {e : Env} {s : State} {m : MethodId} {args : Array Value} {below : List Frame} {meth : Method} {c : Code} (hI : wI 9 q) (C : Cx p s m args meth c cX9_loopOf 9 RX9 D cy z 9 q) (hr : meth.sig.returnType = (some .int)) {len span wires chg rsp rwi val ends : Nat} {text : Nat → Nat} {h was rd eyes fw bars ways : Nat → Int32} {i : Nat} (hi : i < wires) {u : Nat} (hu : u < 40) (hb : oN (fun b => oN (cdN h span wires i b) 4) u = none) (hsh3 : ∃ t, t ≤ 2 ∧ h (5 * i + 3) = nI t) (hs : 8 ≤ span) (hs2 : span ≤ 40) (hw : wires ≤ 8) (hK : oN (cdN h span wires i u) 4 = none → ∀ a b : Int32, AW p l e { frames := 4, cells := 0, slots := 0, locals := 98 } s m args below meth c D 9 q 9 (MQ below (Qg D 9 q (PI (lpI h span wires i) (mdC cy q len span wires chg rsp rwi val ends text h was rd eyes fw bars ways)) (wA 9 q s.heap.size)) args s 0 0 (wA 9 q s.heap.size)) (mdC cy q len span wires chg rsp rwi val ends text (hqs h i a b) was rd eyes fw bars ways) [(0, .ref (q 0)), (1, .int (nI i)), (2, .int (h (5 * i + 3))), (3, .int (h (5 * i + 4))), (4, .int (-4)), (5, .int (nI (u + 1)))] 29 []) : ∀ (d : Nat) (n : Nat) (a : Int32) (b : Int32), 4 - n < d → (n ≤ 4) → (oN (cdN h span wires i u) n = none) → AW p l e { frames := 4, cells := 0, slots := 0, locals := 98 } s m args below meth c D 9 q 9 (MQ below (Qg D 9 q (PI (lpI h span wires i) (mdC cy q len span wires chg rsp rwi val ends text h was rd eyes fw bars ways)) (wA 9 q s.heap.size)) args s 0 0 (wA 9 q s.heap.size)) (mdC cy q len span wires chg rsp rwi val ends text (hqs h i a b) was rd eyes fw bars ways) [(0, .ref (q 0)), (1, .int (nI i)), (2, .int (h (5 * i + 3))), (3, .int (h (5 * i + 4))), (4, .int (-4)), (5, .int (nI u)), (6, .int (nI n))] 44 [] := by
  intro d
  induction d with
  | zero => intro n a b hd; exact absurd hd (Nat.not_lt_zero _)
  | succ d ih =>
    intro n a b hd iv0 iv1
    refine aw_iload C dX9_loopOf_44 rfl ?_
    refine aw_iconst C dX9_loopOf_46 ki_4 ?_
    refine aw_icmp_ge_n (tgt := 167) C dX9_loopOf_47 (by decide) (by omega) (by omega) (fun h47 => ?_) (fun h47 => ?_)
    · refine aw_iinc_n (lv' := [(0, _), (1, _), (2, _), (3, _), (4, _), (5, _), (6, _)]) C dX9_loopOf_167 rfl ki_1 (Nat.le_of_ble_eq_true rfl) rfl ?_
      refine aw_goto (tgt := 29) C dX9_loopOf_170 (by decide) ?_
      refine aw_take 6 (lv' := [(0, _), (1, _), (2, _), (3, _), (4, _), (5, _)]) rfl ?_
      exact hK (by rw [show n = 4 by omega] at iv1; exact iv1) _ _
    · refine aw_iload C dX9_loopOf_50 rfl ?_
      refine aw_if_ge (tgt := 167) C dX9_loopOf_52 (by decide) (fun h52 => absurd h52 (by decide)) (fun h52 => ?_)
      have hex : ∃ t, t ≤ 2 ∧ (shN (h (5 * i + 3)) n) = nI t := by unfold shN; split; exact hsh3; exact ⟨n - 1, by omega, rfl⟩
      obtain ⟨t, ht, hsh⟩ := hex
      have hcd : ∀ x, cdN h span wires i u n = some x → lpI h span wires i = x := fun x hx => by
        have e1 := oN_t (n := 4) (by omega) iv1 hx
        have e2 := oN_t (g := fun b => oN (cdN h span wires i b) 4) (n := 40) hu hb e1
        unfold lpI lpO
        rw [e2]
      refine aw_aload_n C dX9_loopOf_55 (i := 0) rfl rfl ?_
      refine aw_get (k := 0) C dX9_loopOf_56 fl_X9_13 (by decide) rfl rfl ?_
      refine aw_iconst C dX9_loopOf_59 ki_5 ?_
      refine aw_iload_n C dX9_loopOf_60 (i := 1) rfl rfl ?_
      refine aw_imul_n C dX9_loopOf_61 ?_
      refine aw_iconst C dX9_loopOf_62 ki_3 ?_
      refine aw_iadd_n C dX9_loopOf_63 ?_
      refine aw_iload C dX9_loopOf_64 rfl ?_
      refine aw_if_ne_n (tgt := 73) C dX9_loopOf_66 (by decide) (by omega) (fun h66 => ?_) (fun h66 => ?_)
      · refine aw_iload C dX9_loopOf_73 rfl ?_
        refine aw_iconst C dX9_loopOf_75 ki_1 ?_
        refine aw_isub_n C dX9_loopOf_76 (by omega) ?_
        refine aw_iast (k := 2) C dX9_loopOf_77 (by decide) (rfl) (rfl) (by omega) (by decide) (md_a_h) ?_
        refine aw_iconst C dX9_loopOf_78 ki_m1 ?_
        refine aw_istore (lv' := [(0, _), (1, _), (2, _), (3, _), (4, _), (5, _), (6, _), (7, _)]) C dX9_loopOf_79 (Nat.le_of_ble_eq_true rfl) rfl ?_
        have eSh : shN (h (5 * i + 3)) n = nI (n - 1) := if_neg (Nat.ne_of_gt h66)
        refine aw_fq (f' := (mdC cy q len span wires chg rsp rwi val ends text (hqs h i (shN (h (5 * i + 3)) n) b) was rd eyes fw bars ways)) (by rw [hqs_3, eSh]) ?_
        refine cm_loopOf_sm hI C hr hi hu (by omega) ht hsh hs hs2 hw (fun x hx => hcd x (by unfold cdN; rw [hx])) (fun h1 => ?_)
        refine aw_lq (lv' := [(0, .ref (q 0)), (1, .int (nI i)), (2, .int (h (5 * i + 3))), (3, .int (h (5 * i + 4))), (4, .int (-4)), (5, .int (nI u)), (6, .int (nI n)), (7, .int (nI 1))]) (by rw [show ((-1 : Int32) + nI 2) = nI 1 from by decide]) ?_
        refine cm_loopOf_sp hI C hr hi hu (by omega) ht hsh hs hs2 hw (fun x hx => hcd x (by unfold cdN; rw [h1]; exact hx)) (fun h2 => ?_)
        exact cm_loopOf_x hI C hr hi hu (by omega) hs hs2 hw (ih (n + 1) _ _ (by omega) (by omega) (by rw [oN_s iv1]; unfold cdN; rw [h1]; exact h2))
      · refine aw_iload_n C dX9_loopOf_69 (i := 2) rfl rfl ?_
        refine aw_goto (tgt := 77) C dX9_loopOf_70 (by decide) ?_
        refine aw_iast (k := 2) C dX9_loopOf_77 (by decide) (rfl) (rfl) (by omega) (by decide) (md_a_h) ?_
        refine aw_iconst C dX9_loopOf_78 ki_m1 ?_
        refine aw_istore (lv' := [(0, _), (1, _), (2, _), (3, _), (4, _), (5, _), (6, _), (7, _)]) C dX9_loopOf_79 (Nat.le_of_ble_eq_true rfl) rfl ?_
        have eSh : shN (h (5 * i + 3)) n = h (5 * i + 3) := if_pos h66
        refine aw_fq (f' := (mdC cy q len span wires chg rsp rwi val ends text (hqs h i (shN (h (5 * i + 3)) n) b) was rd eyes fw bars ways)) (by rw [hqs_3, eSh]) ?_
        refine cm_loopOf_sm hI C hr hi hu (by omega) ht hsh hs hs2 hw (fun x hx => hcd x (by unfold cdN; rw [hx])) (fun h1 => ?_)
        refine aw_lq (lv' := [(0, .ref (q 0)), (1, .int (nI i)), (2, .int (h (5 * i + 3))), (3, .int (h (5 * i + 4))), (4, .int (-4)), (5, .int (nI u)), (6, .int (nI n)), (7, .int (nI 1))]) (by rw [show ((-1 : Int32) + nI 2) = nI 1 from by decide]) ?_
        refine cm_loopOf_sp hI C hr hi hu (by omega) ht hsh hs hs2 hw (fun x hx => hcd x (by unfold cdN; rw [h1]; exact hx)) (fun h2 => ?_)
        exact cm_loopOf_x hI C hr hi hu (by omega) hs hs2 hw (ih (n + 1) _ _ (by omega) (by omega) (by rw [oN_s iv1]; unfold cdN; rw [h1]; exact h2))
set_option maxRecDepth 20000 in
/-- loopOf, its loop -/
theorem cm_loopOf_b {l : Launch} {D : va_G} {cy : Nat → ClassId} {z : Nat → Nat} {q : Nat → Nat} {p : Program} {e : Env} {s : State} {m : MethodId} {args : Array Value} {below : List Frame} {meth : Method} {c : Code} (hI : wI 9 q) (C : Cx p s m args meth c cX9_loopOf 9 RX9 D cy z 9 q) (hr : meth.sig.returnType = (some .int)) {len span wires chg rsp rwi val ends : Nat} {text : Nat → Nat} {h was rd eyes fw bars ways : Nat → Int32} {i : Nat} (hi : i < wires) (hsh3 : ∃ t, t ≤ 2 ∧ h (5 * i + 3) = nI t) (hs : 8 ≤ span) (hs2 : span ≤ 40) (hw : wires ≤ 8) : ∀ (d : Nat) (u : Nat) (a : Int32) (b : Int32), 40 - u < d → (u ≤ 40) → (oN (fun b => oN (cdN h span wires i b) 4) u = none) → AW p l e { frames := 4, cells := 0, slots := 0, locals := 98 } s m args below meth c D 9 q 9 (MQ below (Qg D 9 q (PI (lpI h span wires i) (mdC cy q len span wires chg rsp rwi val ends text h was rd eyes fw bars ways)) (wA 9 q s.heap.size)) args s 0 0 (wA 9 q s.heap.size)) (mdC cy q len span wires chg rsp rwi val ends text (hqs h i a b) was rd eyes fw bars ways) [(0, .ref (q 0)), (1, .int (nI i)), (2, .int (h (5 * i + 3))), (3, .int (h (5 * i + 4))), (4, .int (-4)), (5, .int (nI u))] 29 [] := by
  intro d
  induction d with
  | zero => intro u a b hd; exact absurd hd (Nat.not_lt_zero _)
  | succ d ih =>
    intro u a b hd iv0 iv1
    refine aw_iload C dX9_loopOf_29 rfl ?_
    refine aw_bipush C dX9_loopOf_31 kb_40 ?_
    refine aw_icmp_ge_n (tgt := 173) C dX9_loopOf_33 (by decide) (by omega) (by omega) (fun h33 => ?_) (fun h33 => ?_)
    · refine aw_take 5 (lv' := [(0, _), (1, _), (2, _), (3, _), (4, _)]) rfl ?_
      have e9 : lpI h span wires i = -4 := by unfold lpI lpO; rw [show u = 40 by omega] at iv1; rw [iv1]
      rw [e9]
      exact cm_loopOf_e hI C hr hi hs hs2 hw
    · refine aw_iload C dX9_loopOf_36 rfl ?_
      refine aw_if_ge (tgt := 173) C dX9_loopOf_38 (by decide) (fun h38 => absurd h38 (by decide)) (fun h38 => ?_)
      refine aw_iconst C dX9_loopOf_41 ki_0 ?_
      refine aw_istore (lv' := [(0, _), (1, _), (2, _), (3, _), (4, _), (5, _), (6, _)]) C dX9_loopOf_42 (Nat.le_of_ble_eq_true rfl) rfl ?_
      exact cm_loopOf_n hI C hr hi h33 iv1 hsh3 hs hs2 hw (fun h1 a b => ih (u + 1) a b (by omega) (by omega) (by rw [oN_s iv1]; exact h1)) 5 0 _ _ (by omega) (by omega) rfl
set_option maxRecDepth 20000 in
/-- loopOf -/
theorem cm_loopOf {l : Launch} {D : va_G} {cy : Nat → ClassId} {z : Nat → Nat} {q : Nat → Nat} (hI : wI 9 q) {len span wires chg rsp rwi val ends : Nat} {text : Nat → Nat} {h was rd eyes fw bars ways : Nat → Int32} {i : Nat} (hi : i < wires) (hsh3 : ∃ t, t ≤ 2 ∧ h (5 * i + 3) = nI t) (hs : 8 ≤ span) (hs2 : span ≤ 40) (hw : wires ≤ 8) : Ct l yX9_loopOf cX9_loopOf 9 (some .int) 4 98 D cy z 9 q [.ref (q 0), .int (nI i)] (mdC cy q len span wires chg rsp rwi val ends text h was rd eyes fw bars ways) (PI (lpI h span wires i) (mdC cy q len span wires chg rsp rwi val ends text h was rd eyes fw bars ways)) := by
  refine Ct.of (own := RX9) (by decide) rfl hI (Nat.le_of_ble_eq_true rfl) ?_
  intro p e s m args below meth c C hr
  refine aw_lv (lv' := [(0, .ref (q 0)), (1, .int (nI i))]) (fun x hx => hx) ?_
  refine aw_aload_n C dX9_loopOf_0 (i := 0) rfl rfl ?_
  refine aw_get (k := 0) C dX9_loopOf_1 fl_X9_13 (by decide) rfl rfl ?_
  refine aw_iconst C dX9_loopOf_4 ki_5 ?_
  refine aw_iload_n C dX9_loopOf_5 (i := 1) rfl rfl ?_
  refine aw_imul_n C dX9_loopOf_6 ?_
  refine aw_iconst C dX9_loopOf_7 ki_3 ?_
  refine aw_iadd_n C dX9_loopOf_8 ?_
  refine aw_iald (k := 2) C dX9_loopOf_9 (by decide) (rfl) (rfl) (by omega) (by decide) (rfl) ?_
  refine aw_istore_n (lv' := [(0, _), (1, _), (2, _)]) C dX9_loopOf_10 (i := 2) rfl (Nat.le_of_ble_eq_true rfl) rfl ?_
  refine aw_aload_n C dX9_loopOf_11 (i := 0) rfl rfl ?_
  refine aw_get (k := 0) C dX9_loopOf_12 fl_X9_13 (by decide) rfl rfl ?_
  refine aw_iconst C dX9_loopOf_15 ki_5 ?_
  refine aw_iload_n C dX9_loopOf_16 (i := 1) rfl rfl ?_
  refine aw_imul_n C dX9_loopOf_17 ?_
  refine aw_iconst C dX9_loopOf_18 ki_4 ?_
  refine aw_iadd_n C dX9_loopOf_19 ?_
  refine aw_iald (k := 2) C dX9_loopOf_20 (by decide) (rfl) (rfl) (by omega) (by decide) (rfl) ?_
  refine aw_istore_n (lv' := [(0, _), (1, _), (2, _), (3, _)]) C dX9_loopOf_21 (i := 3) rfl (Nat.le_of_ble_eq_true rfl) rfl ?_
  refine aw_bipush C dX9_loopOf_22 kb_m4 ?_
  refine aw_istore (lv' := [(0, _), (1, _), (2, _), (3, _), (4, _)]) C dX9_loopOf_24 (Nat.le_of_ble_eq_true rfl) rfl ?_
  refine aw_iconst C dX9_loopOf_26 ki_0 ?_
  refine aw_istore (lv' := [(0, _), (1, _), (2, _), (3, _), (4, _), (5, _)]) C dX9_loopOf_27 (Nat.le_of_ble_eq_true rfl) rfl ?_
  refine aw_fq (f' := (mdC cy q len span wires chg rsp rwi val ends text (hqs h i (h (5 * i + 3)) (h (5 * i + 4))) was rd eyes fw bars ways)) (by rw [hqs_id rfl rfl]) ?_
  exact cm_loopOf_b hI C hr hi hsh3 hs hs2 hw 41 0 _ _ (by omega) (by omega) rfl
set_option maxRecDepth 20000 in
/-- loop -/
theorem cm_loop {l : Launch} {D : va_G} {cy : Nat → ClassId} {z : Nat → Nat} {q : Nat → Nat} (hI : wI 9 q) {len span wires chg rsp rwi val ends : Nat} {text : Nat → Nat} {h was rd eyes fw bars ways : Nat → Int32} {i : Int32} (hsh : ∀ a, a < wires → ∃ t, t ≤ 2 ∧ h (5 * a + 3) = nI t) (hs : 8 ≤ span) (hs2 : span ≤ 40) (hw : wires ≤ 8) : Ct l yX9_loop cX9_loop 2 (some .int) 5 126 D cy z 9 q [.ref (q 0), .int i] (mdC cy q len span wires chg rsp rwi val ends text h was rd eyes fw bars ways) (PI (opLoop span wires h i) (mdC cy q len span wires chg rsp rwi val ends text h was rd eyes fw bars ways)) := by
  refine Ct.of (own := RX9) (by decide) rfl hI (Nat.le_of_ble_eq_true rfl) ?_
  intro p e s m args below meth c C hr
  refine aw_lv (lv' := [(0, .ref (q 0)), (1, .int i)]) (fun x hx => hx) ?_
  refine aw_aload_n C dX9_loop_0 (i := 0) rfl rfl ?_
  refine aw_iload_n C dX9_loop_1 (i := 1) rfl rfl ?_
  refine aw_V1i (k := 0) C dX9_loop_2 cv_X9_94 (by decide) rfl rfl rfl (cm_isWr hI) ⟨Nat.le_of_ble_eq_true rfl, Nat.le_of_ble_eq_true rfl⟩ (Nat.le_of_ble_eq_true rfl) ?_
  refine aw_if_eq_b (tgt := 16) C dX9_loop_5 (by decide) (fun h5 => ?_) (fun h5 => ?_)
  · refine aw_iconst C dX9_loop_16 ki_m1 ?_
    refine aw_iret C hr dX9_loop_17 ?_
    exact PI.mk (if_neg (by rw [h5]; decide)).symm rfl
  · have e0 : opLoop span wires h i = lpI h span wires i.toNatClampNeg := if_pos h5
    obtain ⟨a, ha, rfl⟩ := wr_of hw h5
    rw [nI_clamp (by omega)] at e0
    refine aw_aload_n C dX9_loop_8 (i := 0) rfl rfl ?_
    refine aw_iload_n C dX9_loop_9 (i := 1) rfl rfl ?_
    refine aw_V1i (k := 0) C dX9_loop_10 cv_X9_154 (by decide) rfl rfl rfl (cm_loopOf hI ha (hsh a ha) hs hs2 hw) ⟨Nat.le_of_ble_eq_true rfl, Nat.le_of_ble_eq_true rfl⟩ (Nat.le_of_ble_eq_true rfl) ?_
    refine aw_goto (tgt := 17) C dX9_loop_13 (by decide) ?_
    refine aw_iret C hr dX9_loop_17 ?_
    exact PI.mk e0.symm rfl
set_option maxRecDepth 20000 in
/-- mend -/
theorem cm_mend {l : Launch} {D : va_G} {cy : Nat → ClassId} {z : Nat → Nat} {q : Nat → Nat} (hI : wI 9 q) {len span wires chg rsp rwi val ends : Nat} {text : Nat → Nat} {h was rd eyes fw bars ways : Nat → Int32} {i : Int32} (hc : chg ≤ 6) (hsh : ∀ a, a < wires → ∃ t, t ≤ 2 ∧ h (5 * a + 3) = nI t) (hs : 8 ≤ span) (hs2 : span ≤ 40) (hw : wires ≤ 8) : Ct l yX9_mend cX9_mend 4 (some .int) 5 126 D cy z 9 q [.ref (q 0), .int i] (mdC cy q len span wires chg rsp rwi val ends text h was rd eyes fw bars ways) (PO cy q (opMend len span wires chg text h was eyes i)) := by
  refine Ct.of (own := RX9) (by decide) rfl hI (Nat.le_of_ble_eq_true rfl) ?_
  intro p e s m args below meth c C hr
  refine aw_lv (lv' := [(0, .ref (q 0)), (1, .int i)]) (fun x hx => hx) ?_
  refine aw_aload_n C dX9_mend_0 (i := 0) rfl rfl ?_
  refine aw_iload_n C dX9_mend_1 (i := 1) rfl rfl ?_
  refine aw_V1i (k := 0) C dX9_mend_2 cv_X9_94 (by decide) rfl rfl rfl (cm_isWr hI) ⟨Nat.le_of_ble_eq_true rfl, Nat.le_of_ble_eq_true rfl⟩ (Nat.le_of_ble_eq_true rfl) ?_
  refine aw_if_ne_b (tgt := 10) C dX9_mend_5 (by decide) (fun h5 => ?_) (fun h5 => ?_)
  · obtain ⟨a, ha, rfl⟩ := wr_of hw h5
    have ec : (nI a).toNatClampNeg = a := nI_clamp (by omega)
    refine aw_aload_n C dX9_mend_10 (i := 0) rfl rfl ?_
    refine aw_iload_n C dX9_mend_11 (i := 1) rfl rfl ?_
    refine aw_V1i (k := 0) C dX9_mend_12 cv_X9_154 (by decide) rfl rfl rfl (cm_loopOf hI ha (hsh a ha) hs hs2 hw) ⟨Nat.le_of_ble_eq_true rfl, Nat.le_of_ble_eq_true rfl⟩ (Nat.le_of_ble_eq_true rfl) ?_
    refine aw_istore_n (lv' := [(0, _), (1, _), (2, _)]) C dX9_mend_15 (i := 2) rfl (Nat.le_of_ble_eq_true rfl) rfl ?_
    refine aw_bipush C dX9_mend_16 kb_100 ?_
    refine aw_aload_n C dX9_mend_18 (i := 0) rfl rfl ?_
    refine aw_get (k := 0) C dX9_mend_19 fl_X9_13 (by decide) rfl rfl ?_
    refine aw_iconst C dX9_mend_22 ki_5 ?_
    refine aw_iload_n C dX9_mend_23 (i := 1) rfl rfl ?_
    refine aw_imul_n C dX9_mend_24 ?_
    refine aw_iconst C dX9_mend_25 ki_3 ?_
    refine aw_iadd_n C dX9_mend_26 ?_
    refine aw_iald (k := 2) C dX9_mend_27 (by decide) (rfl) (rfl) (by omega) (by decide) (rfl) ?_
    refine aw_imul C dX9_mend_28 ?_
    refine aw_aload_n C dX9_mend_29 (i := 0) rfl rfl ?_
    refine aw_get (k := 0) C dX9_mend_30 fl_X9_13 (by decide) rfl rfl ?_
    refine aw_iconst C dX9_mend_33 ki_5 ?_
    refine aw_iload_n C dX9_mend_34 (i := 1) rfl rfl ?_
    refine aw_imul_n C dX9_mend_35 ?_
    refine aw_iconst C dX9_mend_36 ki_4 ?_
    refine aw_iadd_n C dX9_mend_37 ?_
    refine aw_iald (k := 2) C dX9_mend_38 (by decide) (rfl) (rfl) (by omega) (by decide) (rfl) ?_
    refine aw_iadd C dX9_mend_39 ?_
    refine aw_istore_n (lv' := [(0, _), (1, _), (2, _), (3, _)]) C dX9_mend_40 (i := 3) rfl (Nat.le_of_ble_eq_true rfl) rfl ?_
    refine aw_iload_n C dX9_mend_41 (i := 2) rfl rfl ?_
    refine aw_if_lt (tgt := 50) C dX9_mend_42 (by decide) (fun h42 => ?_) (fun h42 => ?_)
    · refine aw_iload_n C dX9_mend_50 (i := 2) rfl rfl ?_
      refine aw_if_ge (tgt := 59) C dX9_mend_51 (by decide) (fun h51 => absurd h51 (i_nle h42)) (fun h51 => ?_)
      refine aw_bipush C dX9_mend_54 kb_m4 ?_
      refine aw_goto (tgt := 61) C dX9_mend_56 (by decide) ?_
      refine aw_iret C hr dX9_mend_61 ?_
      exact PO.mk (by unfold opMend; rw [if_pos h5, ec, if_pos h42])
    · refine aw_iload_n C dX9_mend_45 (i := 2) rfl rfl ?_
      refine aw_iload_n C dX9_mend_46 (i := 3) rfl rfl ?_
      refine aw_icmp_ne (tgt := 62) C dX9_mend_47 (by decide) (fun h47 => ?_) (fun h47 => ?_)
      · refine aw_aload_n C dX9_mend_62 (i := 0) rfl rfl ?_
        refine aw_V0v (k := 0) C dX9_mend_63 cv_X9_91 (by decide) rfl rfl rfl (cm_notes hI hc) ⟨Nat.le_of_ble_eq_true rfl, Nat.le_of_ble_eq_true rfl⟩ (Nat.le_of_ble_eq_true rfl) ?_
        refine aw_aload_n C dX9_mend_66 (i := 0) rfl rfl ?_
        refine aw_get (k := 0) C dX9_mend_67 fl_X9_13 (by decide) rfl rfl ?_
        refine aw_iconst C dX9_mend_70 ki_5 ?_
        refine aw_iload_n C dX9_mend_71 (i := 1) rfl rfl ?_
        refine aw_imul_n C dX9_mend_72 ?_
        refine aw_iconst C dX9_mend_73 ki_3 ?_
        refine aw_iadd_n C dX9_mend_74 ?_
        refine aw_iload_n C dX9_mend_75 (i := 2) rfl rfl ?_
        refine aw_bipush C dX9_mend_76 kb_100 ?_
        refine aw_idiv C dX9_mend_78 (by decide) ?_
        refine aw_iast (k := 2) C dX9_mend_79 (by decide) (rfl) (rfl) (by omega) (by decide) (md_a_h) ?_
        refine aw_aload_n C dX9_mend_80 (i := 0) rfl rfl ?_
        refine aw_get (k := 0) C dX9_mend_81 fl_X9_13 (by decide) rfl rfl ?_
        refine aw_iconst C dX9_mend_84 ki_5 ?_
        refine aw_iload_n C dX9_mend_85 (i := 1) rfl rfl ?_
        refine aw_imul_n C dX9_mend_86 ?_
        refine aw_iconst C dX9_mend_87 ki_4 ?_
        refine aw_iadd_n C dX9_mend_88 ?_
        refine aw_iload_n C dX9_mend_89 (i := 2) rfl rfl ?_
        refine aw_bipush C dX9_mend_90 kb_100 ?_
        refine aw_irem C dX9_mend_92 (by decide) ?_
        refine aw_iast (k := 2) C dX9_mend_93 (by decide) (rfl) (rfl) (by omega) (by decide) (md_a_h) ?_
        refine aw_iload_n C dX9_mend_94 (i := 2) rfl rfl ?_
        refine aw_bipush C dX9_mend_95 kb_100 ?_
        refine aw_irem C dX9_mend_97 (by decide) ?_
        refine aw_iload_n C dX9_mend_98 (i := 3) rfl rfl ?_
        refine aw_bipush C dX9_mend_99 kb_100 ?_
        refine aw_irem C dX9_mend_101 (by decide) ?_
        refine aw_S2i C dX9_mend_102 cs_X9_105 (cm_distance hI) ⟨Nat.le_of_ble_eq_true rfl, Nat.le_of_ble_eq_true rfl⟩ (Nat.le_of_ble_eq_true rfl) ?_
        refine aw_iret C hr dX9_mend_105 ?_
        exact PO.mk (by unfold opMend hqs; rw [if_pos h5, ec, if_neg h42, if_neg h47])
      · refine aw_iload_n C dX9_mend_50 (i := 2) rfl rfl ?_
        refine aw_if_ge (tgt := 59) C dX9_mend_51 (by decide) (fun h51 => ?_) (fun h51 => absurd (i_le h42) h51)
        refine aw_bipush C dX9_mend_59 kb_m2 ?_
        refine aw_iret C hr dX9_mend_61 ?_
        exact PO.mk (by unfold opMend; rw [if_pos h5, ec, if_neg h42, if_pos h47])
  · refine aw_iconst C dX9_mend_8 ki_m1 ?_
    refine aw_iret C hr dX9_mend_9 ?_
    exact PO.mk (by unfold opMend; rw [if_neg (by rw [h5]; decide)])
