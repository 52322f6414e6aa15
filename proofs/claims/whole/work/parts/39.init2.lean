-- the constructors of the nested classes
theorem ff_X6_9 : FF RX6 9 6 0 (.array .char) := ⟨TX6, 2, tyX6, rfl, by decide, uw_X6, rfl, gw_at 78 (by decide +kernel) rfl, tyX6_ok, nmX6, rfl, by decide +kernel⟩
set_option maxRecDepth 20000 in
theorem ck_X6 {l : Launch} {D : va_G} {cy : Nat → ClassId} {z : Nat → Nat} {sA sV : Nat} {v : Value} {h0 : Nat} : Ck l yX6_init cX6_init 1 1 32 1 200 D cy z sA sV v h0 [] 6 [.null, .int (nI 0)] (fun w1 => ∃ a1 : Nat, w1 = [(h0, .inr (6, [.ref a1, .int (nI 0)])), (a1, .inl (cy 0, 200, .inl (fun _ => nI 0)))]) := by
  refine Ck.of (own := RX6) (by decide) rfl rfl (Nat.le_of_ble_eq_true rfl) ?_
  intro p e s m args below meth c C hr
  refine an_lv (lv' := [(0, .ref h0)]) (fun x hx => hx) ?_
  refine an_aload_n C dX6_init_0 (i := 0) rfl rfl ?_
  refine an_objInit C dX6_init_1 (gw_at 77 (by decide +kernel) rfl) ⟨Nat.le_of_ble_eq_true rfl, Nat.le_of_ble_eq_true rfl⟩ ?_
  refine an_aload_n C dX6_init_4 (i := 0) rfl rfl ?_
  refine an_sipush C dX6_init_5 ks_200 ?_
  refine an_newa (t := 0) (len := 200) (a0 := (200, .inl (fun _ => nI 0))) C dX6_init_8 rfl (gw_at 87 (by decide +kernel) rfl) rfl (fun U cA h9 => h9) (fun _ => rfl) (by decide) (by decide) (Nat.le_of_ble_eq_true rfl) (Nat.le_of_ble_eq_true rfl) (fun a1 => ?_)
  refine an_putF (i := 0) (ws' := [(h0, .inr (6, [.ref a1, .int (nI 0)])), (a1, .inl (cy 0, 200, .inl (fun _ => nI 0)))]) C (by decide) dX6_init_10 ff_X6_9 rfl rfl rfl (Nat.le_of_ble_eq_true rfl) rfl ?_
  exact an_vret C hr dX6_init_13 ⟨a1, rfl⟩
theorem ff_X1_9 : FF RX1 9 1 0 (.array .int) := ⟨TX1, 6, tyX1, rfl, by decide, uw_X1, rfl, gw_at 94 (by decide +kernel) rfl, tyX1_ok, nmX1, rfl, by decide +kernel⟩
theorem ff_X1_15 : FF RX1 15 1 1 (.array .int) := ⟨TX1, 6, tyX1, rfl, by decide, uw_X1, rfl, gw_at 96 (by decide +kernel) rfl, tyX1_ok, nmX1, rfl, by decide +kernel⟩
set_option maxRecDepth 20000 in
theorem ck_X1 {l : Launch} {D : va_G} {cy : Nat → ClassId} {z : Nat → Nat} {sA sV : Nat} {v : Value} {h0 : Nat} : Ck l yX1_init cX1_init 1 1 32 2 43 D cy z sA sV v h0 [] 1 [.null, .null, .int (nI 0), .int (nI 0), .int (nI 0), .int (nI 0)] (fun w1 => ∃ a1 a2 : Nat, w1 = [(h0, .inr (1, [.ref a1, .ref a2, .int (nI 0), .int (nI 0), .int (nI 0), .int (nI 0)])), (a1, .inl (cy 1, 40, .inl (fun _ => nI 0))), (a2, .inl (cy 1, 3, .inl (fun _ => nI 0)))]) := by
  refine Ck.of (own := RX1) (by decide) rfl rfl (Nat.le_of_ble_eq_true rfl) ?_
  intro p e s m args below meth c C hr
  refine an_lv (lv' := [(0, .ref h0)]) (fun x hx => hx) ?_
  refine an_aload_n C dX1_init_0 (i := 0) rfl rfl ?_
  refine an_objInit C dX1_init_1 (gw_at 93 (by decide +kernel) rfl) ⟨Nat.le_of_ble_eq_true rfl, Nat.le_of_ble_eq_true rfl⟩ ?_
  refine an_aload_n C dX1_init_4 (i := 0) rfl rfl ?_
  refine an_bipush C dX1_init_5 kb_40 ?_
  refine an_newa (t := 1) (len := 40) (a0 := (40, .inl (fun _ => nI 0))) C dX1_init_7 rfl (gw_at 119 (by decide +kernel) rfl) rfl (fun U cA h9 => h9) (fun _ => rfl) (by decide) (by decide) (Nat.le_of_ble_eq_true rfl) (Nat.le_of_ble_eq_true rfl) (fun a1 => ?_)
  refine an_putF (i := 0) (ws' := [(h0, .inr (1, [.ref a1, .null, .int (nI 0), .int (nI 0), .int (nI 0), .int (nI 0)])), (a1, .inl (cy 1, 40, .inl (fun _ => nI 0)))]) C (by decide) dX1_init_9 ff_X1_9 rfl rfl rfl (Nat.le_of_ble_eq_true rfl) rfl ?_
  refine an_aload_n C dX1_init_12 (i := 0) rfl rfl ?_
  refine an_iconst C dX1_init_13 ki_3 ?_
  refine an_newa (t := 1) (len := 3) (a0 := (3, .inl (fun _ => nI 0))) C dX1_init_14 rfl (gw_at 119 (by decide +kernel) rfl) rfl (fun U cA h9 => h9) (fun _ => rfl) (by decide) (by decide) (Nat.le_of_ble_eq_true rfl) (Nat.le_of_ble_eq_true rfl) (fun a2 => ?_)
  refine an_putF (i := 0) (ws' := [(h0, .inr (1, [.ref a1, .ref a2, .int (nI 0), .int (nI 0), .int (nI 0), .int (nI 0)])), (a1, .inl (cy 1, 40, .inl (fun _ => nI 0))), (a2, .inl (cy 1, 3, .inl (fun _ => nI 0)))]) C (by decide) dX1_init_16 ff_X1_15 rfl rfl rfl (Nat.le_of_ble_eq_true rfl) rfl ?_
  exact an_vret C hr dX1_init_19 ⟨a1, a2, rfl⟩
theorem ff_X0_11 : FF RX0 11 0 0 (.array .int) := ⟨TX0, 3, tyX0, rfl, by decide, uw_X0, rfl, gw_at 126 (by decide +kernel) rfl, tyX0_ok, nmX0, rfl, by decide +kernel⟩
set_option maxRecDepth 20000 in
theorem ck_X0 {l : Launch} {D : va_G} {cy : Nat → ClassId} {z : Nat → Nat} {sA sV : Nat} {v : Value} {h0 : Nat} : Ck l yX0_init cX0_init 1 1 32 1 45 D cy z sA sV v h0 [] 0 [.null, .int (nI 0), .int (nI 0)] (fun w1 => ∃ a1 : Nat, w1 = [(h0, .inr (0, [.ref a1, .int (nI 0), .int (nI 0)])), (a1, .inl (cy 1, 45, .inl (fun _ => nI 0)))]) := by
  refine Ck.of (own := RX0) (by decide) rfl rfl (Nat.le_of_ble_eq_true rfl) ?_
  intro p e s m args below meth c C hr
  refine an_lv (lv' := [(0, .ref h0)]) (fun x hx => hx) ?_
  refine an_aload_n C dX0_init_0 (i := 0) rfl rfl ?_
  refine an_objInit C dX0_init_1 (gw_at 125 (by decide +kernel) rfl) ⟨Nat.le_of_ble_eq_true rfl, Nat.le_of_ble_eq_true rfl⟩ ?_
  refine an_aload_n C dX0_init_4 (i := 0) rfl rfl ?_
  refine an_bipush C dX0_init_5 kb_45 ?_
  refine an_newa (t := 1) (len := 45) (a0 := (45, .inl (fun _ => nI 0))) C dX0_init_7 rfl (gw_at 119 (by decide +kernel) rfl) rfl (fun U cA h9 => h9) (fun _ => rfl) (by decide) (by decide) (Nat.le_of_ble_eq_true rfl) (Nat.le_of_ble_eq_true rfl) (fun a1 => ?_)
  refine an_putF (i := 0) (ws' := [(h0, .inr (0, [.ref a1, .int (nI 0), .int (nI 0)])), (a1, .inl (cy 1, 45, .inl (fun _ => nI 0)))]) C (by decide) dX0_init_9 ff_X0_11 rfl rfl rfl (Nat.le_of_ble_eq_true rfl) rfl ?_
  exact an_vret C hr dX0_init_12 ⟨a1, rfl⟩
theorem ff_X3_13 : FF RX3 13 3 0 (.array (.array .int)) := ⟨TX3, 3, tyX3, rfl, by decide, uw_X3, rfl, gw_at 153 (by decide +kernel) rfl, tyX3_ok, nmX3, rfl, by decide +kernel⟩
set_option maxRecDepth 20000 in
theorem ck_X3 {l : Launch} {D : va_G} {cy : Nat → ClassId} {z : Nat → Nat} {sA sV : Nat} {v : Value} {h0 : Nat} : Ck l yX3_init cX3_init 1 1 32 7 276 D cy z sA sV v h0 [] 3 [.null, .int (nI 0), .int (nI 0)] (fun w1 => ∃ a1 : Nat, w1 = [(h0, .inr (3, [.ref a1, .int (nI 0), .int (nI 0)])), (a1, .inl (cy 4, 6, .inr (.inr (.inr (.inr (fun j => if j < 6 then some (a1 + 1 + j) else none)))))), (a1 + 1 + 0, .inl (cy 1, 45, .inl (fun _ => nI 0))), (a1 + 1 + 1, .inl (cy 1, 45, .inl (fun _ => nI 0))), (a1 + 1 + 2, .inl (cy 1, 45, .inl (fun _ => nI 0))), (a1 + 1 + 3, .inl (cy 1, 45, .inl (fun _ => nI 0))), (a1 + 1 + 4, .inl (cy 1, 45, .inl (fun _ => nI 0))), (a1 + 1 + 5, .inl (cy 1, 45, .inl (fun _ => nI 0)))]) := by
  refine Ck.of (own := RX3) (by decide) rfl rfl (Nat.le_of_ble_eq_true rfl) ?_
  intro p e s m args below meth c C hr
  refine an_lv (lv' := [(0, .ref h0)]) (fun x hx => hx) ?_
  refine an_aload_n C dX3_init_0 (i := 0) rfl rfl ?_
  refine an_objInit C dX3_init_1 (gw_at 150 (by decide +kernel) rfl) ⟨Nat.le_of_ble_eq_true rfl, Nat.le_of_ble_eq_true rfl⟩ ?_
  refine an_aload_n C dX3_init_4 (i := 0) rfl rfl ?_
  refine an_bipush C dX3_init_5 kb_6 ?_
  refine an_bipush C dX3_init_7 kb_45 ?_
  refine an_mnew (N := 6) (M := 45) C dX3_init_9 (gw_at 151 (by decide +kernel) rfl) (gw_at 119 (by decide +kernel) rfl) (by decide) (by decide) (Nat.le_of_ble_eq_true rfl) (Nat.le_of_ble_eq_true rfl) (fun a1 => ?_)
  refine an_putF (i := 0) (ws' := [(h0, .inr (3, [.ref a1, .int (nI 0), .int (nI 0)])), (a1, .inl (cy 4, 6, .inr (.inr (.inr (.inr (fun j => if j < 6 then some (a1 + 1 + j) else none)))))), (a1 + 1 + 0, .inl (cy 1, 45, .inl (fun _ => nI 0))), (a1 + 1 + 1, .inl (cy 1, 45, .inl (fun _ => nI 0))), (a1 + 1 + 2, .inl (cy 1, 45, .inl (fun _ => nI 0))), (a1 + 1 + 3, .inl (cy 1, 45, .inl (fun _ => nI 0))), (a1 + 1 + 4, .inl (cy 1, 45, .inl (fun _ => nI 0))), (a1 + 1 + 5, .inl (cy 1, 45, .inl (fun _ => nI 0)))]) C (by decide) dX3_init_13 ff_X3_13 rfl rfl rfl (Nat.le_of_ble_eq_true rfl) rfl ?_
  exact an_vret C hr dX3_init_16 ⟨a1, rfl⟩
theorem ff_X7_11 : FF RX7 11 7 1 (.array (.array .int)) := ⟨TX7, 6, tyX7, rfl, by decide, uw_X7, rfl, gw_at 172 (by decide +kernel) rfl, tyX7_ok, nmX7, rfl, by decide +kernel⟩
theorem ff_X7_16 : FF RX7 16 7 2 (.array (.array .int)) := ⟨TX7, 6, tyX7, rfl, by decide, uw_X7, rfl, gw_at 173 (by decide +kernel) rfl, tyX7_ok, nmX7, rfl, by decide +kernel⟩
theorem ff_X7_19 : FF RX7 19 7 3 (.array .int) := ⟨TX7, 6, tyX7, rfl, by decide, uw_X7, rfl, gw_at 174 (by decide +kernel) rfl, tyX7_ok, nmX7, rfl, by decide +kernel⟩
theorem ff_X7_23 : FF RX7 23 7 4 (.array .int) := ⟨TX7, 6, tyX7, rfl, by decide, uw_X7, rfl, gw_at 175 (by decide +kernel) rfl, tyX7_ok, nmX7, rfl, by decide +kernel⟩
theorem ff_X7_26 : FF RX7 26 7 0 (.object "BondedWires$Bench") := ⟨TX7, 6, tyX7, rfl, by decide, uw_X7, rfl, gw_at 171 (by decide +kernel) rfl, tyX7_ok, nmX7, rfl, by decide +kernel⟩
set_option maxRecDepth 20000 in
theorem ck_X7 {l : Launch} {D : va_G} {cy : Nat → ClassId} {z : Nat → Nat} {sA sV : Nat} {v : Value} {h0 b1 : Nat} : Ck l yX7_init cX7_init 2 1 32 20 688 D cy z sA sV v h0 [.ref b1] 7 [.null, .null, .null, .null, .null, .int (nI 0)] (fun w1 => ∃ a1 a2 a3 a4 : Nat, w1 = [(h0, .inr (7, [.ref b1, .ref a1, .ref a2, .ref a3, .ref a4, .int (nI 0)])), (a1, .inl (cy 4, 8, .inr (.inr (.inr (.inr (fun j => if j < 8 then some (a1 + 1 + j) else none)))))), (a1 + 1 + 0, .inl (cy 1, 41, .inl (fun _ => nI 0))), (a1 + 1 + 1, .inl (cy 1, 41, .inl (fun _ => nI 0))), (a1 + 1 + 2, .inl (cy 1, 41, .inl (fun _ => nI 0))), (a1 + 1 + 3, .inl (cy 1, 41, .inl (fun _ => nI 0))), (a1 + 1 + 4, .inl (cy 1, 41, .inl (fun _ => nI 0))), (a1 + 1 + 5, .inl (cy 1, 41, .inl (fun _ => nI 0))), (a1 + 1 + 6, .inl (cy 1, 41, .inl (fun _ => nI 0))), (a1 + 1 + 7, .inl (cy 1, 41, .inl (fun _ => nI 0))), (a2, .inl (cy 4, 8, .inr (.inr (.inr (.inr (fun j => if j < 8 then some (a2 + 1 + j) else none)))))), (a2 + 1 + 0, .inl (cy 1, 41, .inl (fun _ => nI 0))), (a2 + 1 + 1, .inl (cy 1, 41, .inl (fun _ => nI 0))), (a2 + 1 + 2, .inl (cy 1, 41, .inl (fun _ => nI 0))), (a2 + 1 + 3, .inl (cy 1, 41, .inl (fun _ => nI 0))), (a2 + 1 + 4, .inl (cy 1, 41, .inl (fun _ => nI 0))), (a2 + 1 + 5, .inl (cy 1, 41, .inl (fun _ => nI 0))), (a2 + 1 + 6, .inl (cy 1, 41, .inl (fun _ => nI 0))), (a2 + 1 + 7, .inl (cy 1, 41, .inl (fun _ => nI 0))), (a3, .inl (cy 1, 8, .inl (fun _ => nI 0))), (a4, .inl (cy 1, 8, .inl (fun _ => nI 0)))]) := by
  refine Ck.of (own := RX7) (by decide) rfl rfl (Nat.le_of_ble_eq_true rfl) ?_
  intro p e s m args below meth c C hr
  refine an_lv (lv' := [(0, .ref h0), (1, .ref b1)]) (fun x hx => hx) ?_
  refine an_aload_n C dX7_init_0 (i := 0) rfl rfl ?_
  refine an_objInit C dX7_init_1 (gw_at 169 (by decide +kernel) rfl) ⟨Nat.le_of_ble_eq_true rfl, Nat.le_of_ble_eq_true rfl⟩ ?_
  refine an_aload_n C dX7_init_4 (i := 0) rfl rfl ?_
  refine an_bipush C dX7_init_5 kb_8 ?_
  refine an_bipush C dX7_init_7 kb_41 ?_
  refine an_mnew (N := 8) (M := 41) C dX7_init_9 (gw_at 170 (by decide +kernel) rfl) (gw_at 119 (by decide +kernel) rfl) (by decide) (by decide) (Nat.le_of_ble_eq_true rfl) (Nat.le_of_ble_eq_true rfl) (fun a1 => ?_)
  refine an_putF (i := 0) (ws' := [(h0, .inr (7, [.null, .ref a1, .null, .null, .null, .int (nI 0)])), (a1, .inl (cy 4, 8, .inr (.inr (.inr (.inr (fun j => if j < 8 then some (a1 + 1 + j) else none)))))), (a1 + 1 + 0, .inl (cy 1, 41, .inl (fun _ => nI 0))), (a1 + 1 + 1, .inl (cy 1, 41, .inl (fun _ => nI 0))), (a1 + 1 + 2, .inl (cy 1, 41, .inl (fun _ => nI 0))), (a1 + 1 + 3, .inl (cy 1, 41, .inl (fun _ => nI 0))), (a1 + 1 + 4, .inl (cy 1, 41, .inl (fun _ => nI 0))), (a1 + 1 + 5, .inl (cy 1, 41, .inl (fun _ => nI 0))), (a1 + 1 + 6, .inl (cy 1, 41, .inl (fun _ => nI 0))), (a1 + 1 + 7, .inl (cy 1, 41, .inl (fun _ => nI 0)))]) C (by decide) dX7_init_13 ff_X7_11 rfl rfl rfl (Nat.le_of_ble_eq_true rfl) rfl ?_
  refine an_aload_n C dX7_init_16 (i := 0) rfl rfl ?_
  refine an_bipush C dX7_init_17 kb_8 ?_
  refine an_bipush C dX7_init_19 kb_41 ?_
  refine an_mnew (N := 8) (M := 41) C dX7_init_21 (gw_at 170 (by decide +kernel) rfl) (gw_at 119 (by decide +kernel) rfl) (by decide) (by decide) (Nat.le_of_ble_eq_true rfl) (Nat.le_of_ble_eq_true rfl) (fun a2 => ?_)
  refine an_putF (i := 0) (ws' := [(h0, .inr (7, [.null, .ref a1, .ref a2, .null, .null, .int (nI 0)])), (a1, .inl (cy 4, 8, .inr (.inr (.inr (.inr (fun j => if j < 8 then some (a1 + 1 + j) else none)))))), (a1 + 1 + 0, .inl (cy 1, 41, .inl (fun _ => nI 0))), (a1 + 1 + 1, .inl (cy 1, 41, .inl (fun _ => nI 0))), (a1 + 1 + 2, .inl (cy 1, 41, .inl (fun _ => nI 0))), (a1 + 1 + 3, .inl (cy 1, 41, .inl (fun _ => nI 0))), (a1 + 1 + 4, .inl (cy 1, 41, .inl (fun _ => nI 0))), (a1 + 1 + 5, .inl (cy 1, 41, .inl (fun _ => nI 0))), (a1 + 1 + 6, .inl (cy 1, 41, .inl (fun _ => nI 0))), (a1 + 1 + 7, .inl (cy 1, 41, .inl (fun _ => nI 0))), (a2, .inl (cy 4, 8, .inr (.inr (.inr (.inr (fun j => if j < 8 then some (a2 + 1 + j) else none)))))), (a2 + 1 + 0, .inl (cy 1, 41, .inl (fun _ => nI 0))), (a2 + 1 + 1, .inl (cy 1, 41, .inl (fun _ => nI 0))), (a2 + 1 + 2, .inl (cy 1, 41, .inl (fun _ => nI 0))), (a2 + 1 + 3, .inl (cy 1, 41, .inl (fun _ => nI 0))), (a2 + 1 + 4, .inl (cy 1, 41, .inl (fun _ => nI 0))), (a2 + 1 + 5, .inl (cy 1, 41, .inl (fun _ => nI 0))), (a2 + 1 + 6, .inl (cy 1, 41, .inl (fun _ => nI 0))), (a2 + 1 + 7, .inl (cy 1, 41, .inl (fun _ => nI 0)))]) C (by decide) dX7_init_25 ff_X7_16 rfl rfl rfl (Nat.le_of_ble_eq_true rfl) rfl ?_
  refine an_aload_n C dX7_init_28 (i := 0) rfl rfl ?_
  refine an_bipush C dX7_init_29 kb_8 ?_
  refine an_newa (t := 1) (len := 8) (a0 := (8, .inl (fun _ => nI 0))) C dX7_init_31 rfl (gw_at 119 (by decide +kernel) rfl) rfl (fun U cA h9 => h9) (fun _ => rfl) (by decide) (by decide) (Nat.le_of_ble_eq_true rfl) (Nat.le_of_ble_eq_true rfl) (fun a3 => ?_)
  refine an_putF (i := 0) (ws' := [(h0, .inr (7, [.null, .ref a1, .ref a2, .ref a3, .null, .int (nI 0)])), (a1, .inl (cy 4, 8, .inr (.inr (.inr (.inr (fun j => if j < 8 then some (a1 + 1 + j) else none)))))), (a1 + 1 + 0, .inl (cy 1, 41, .inl (fun _ => nI 0))), (a1 + 1 + 1, .inl (cy 1, 41, .inl (fun _ => nI 0))), (a1 + 1 + 2, .inl (cy 1, 41, .inl (fun _ => nI 0))), (a1 + 1 + 3, .inl (cy 1, 41, .inl (fun _ => nI 0))), (a1 + 1 + 4, .inl (cy 1, 41, .inl (fun _ => nI 0))), (a1 + 1 + 5, .inl (cy 1, 41, .inl (fun _ => nI 0))), (a1 + 1 + 6, .inl (cy 1, 41, .inl (fun _ => nI 0))), (a1 + 1 + 7, .inl (cy 1, 41, .inl (fun _ => nI 0))), (a2, .inl (cy 4, 8, .inr (.inr (.inr (.inr (fun j => if j < 8 then some (a2 + 1 + j) else none)))))), (a2 + 1 + 0, .inl (cy 1, 41, .inl (fun _ => nI 0))), (a2 + 1 + 1, .inl (cy 1, 41, .inl (fun _ => nI 0))), (a2 + 1 + 2, .inl (cy 1, 41, .inl (fun _ => nI 0))), (a2 + 1 + 3, .inl (cy 1, 41, .inl (fun _ => nI 0))), (a2 + 1 + 4, .inl (cy 1, 41, .inl (fun _ => nI 0))), (a2 + 1 + 5, .inl (cy 1, 41, .inl (fun _ => nI 0))), (a2 + 1 + 6, .inl (cy 1, 41, .inl (fun _ => nI 0))), (a2 + 1 + 7, .inl (cy 1, 41, .inl (fun _ => nI 0))), (a3, .inl (cy 1, 8, .inl (fun _ => nI 0)))]) C (by decide) dX7_init_33 ff_X7_19 rfl rfl rfl (Nat.le_of_ble_eq_true rfl) rfl ?_
  refine an_aload_n C dX7_init_36 (i := 0) rfl rfl ?_
  refine an_bipush C dX7_init_37 kb_8 ?_
  refine an_newa (t := 1) (len := 8) (a0 := (8, .inl (fun _ => nI 0))) C dX7_init_39 rfl (gw_at 119 (by decide +kernel) rfl) rfl (fun U cA h9 => h9) (fun _ => rfl) (by decide) (by decide) (Nat.le_of_ble_eq_true rfl) (Nat.le_of_ble_eq_true rfl) (fun a4 => ?_)
  refine an_putF (i := 0) (ws' := [(h0, .inr (7, [.null, .ref a1, .ref a2, .ref a3, .ref a4, .int (nI 0)])), (a1, .inl (cy 4, 8, .inr (.inr (.inr (.inr (fun j => if j < 8 then some (a1 + 1 + j) else none)))))), (a1 + 1 + 0, .inl (cy 1, 41, .inl (fun _ => nI 0))), (a1 + 1 + 1, .inl (cy 1, 41, .inl (fun _ => nI 0))), (a1 + 1 + 2, .inl (cy 1, 41, .inl (fun _ => nI 0))), (a1 + 1 + 3, .inl (cy 1, 41, .inl (fun _ => nI 0))), (a1 + 1 + 4, .inl (cy 1, 41, .inl (fun _ => nI 0))), (a1 + 1 + 5, .inl (cy 1, 41, .inl (fun _ => nI 0))), (a1 + 1 + 6, .inl (cy 1, 41, .inl (fun _ => nI 0))), (a1 + 1 + 7, .inl (cy 1, 41, .inl (fun _ => nI 0))), (a2, .inl (cy 4, 8, .inr (.inr (.inr (.inr (fun j => if j < 8 then some (a2 + 1 + j) else none)))))), (a2 + 1 + 0, .inl (cy 1, 41, .inl (fun _ => nI 0))), (a2 + 1 + 1, .inl (cy 1, 41, .inl (fun _ => nI 0))), (a2 + 1 + 2, .inl (cy 1, 41, .inl (fun _ => nI 0))), (a2 + 1 + 3, .inl (cy 1, 41, .inl (fun _ => nI 0))), (a2 + 1 + 4, .inl (cy 1, 41, .inl (fun _ => nI 0))), (a2 + 1 + 5, .inl (cy 1, 41, .inl (fun _ => nI 0))), (a2 + 1 + 6, .inl (cy 1, 41, .inl (fun _ => nI 0))), (a2 + 1 + 7, .inl (cy 1, 41, .inl (fun _ => nI 0))), (a3, .inl (cy 1, 8, .inl (fun _ => nI 0))), (a4, .inl (cy 1, 8, .inl (fun _ => nI 0)))]) C (by decide) dX7_init_41 ff_X7_23 rfl rfl rfl (Nat.le_of_ble_eq_true rfl) rfl ?_
  refine an_aload_n C dX7_init_44 (i := 0) rfl rfl ?_
  refine an_aload_n C dX7_init_45 (i := 1) rfl rfl ?_
  refine an_putF (i := 0) (ws' := [(h0, .inr (7, [.ref b1, .ref a1, .ref a2, .ref a3, .ref a4, .int (nI 0)])), (a1, .inl (cy 4, 8, .inr (.inr (.inr (.inr (fun j => if j < 8 then some (a1 + 1 + j) else none)))))), (a1 + 1 + 0, .inl (cy 1, 41, .inl (fun _ => nI 0))), (a1 + 1 + 1, .inl (cy 1, 41, .inl (fun _ => nI 0))), (a1 + 1 + 2, .inl (cy 1, 41, .inl (fun _ => nI 0))), (a1 + 1 + 3, .inl (cy 1, 41, .inl (fun _ => nI 0))), (a1 + 1 + 4, .inl (cy 1, 41, .inl (fun _ => nI 0))), (a1 + 1 + 5, .inl (cy 1, 41, .inl (fun _ => nI 0))), (a1 + 1 + 6, .inl (cy 1, 41, .inl (fun _ => nI 0))), (a1 + 1 + 7, .inl (cy 1, 41, .inl (fun _ => nI 0))), (a2, .inl (cy 4, 8, .inr (.inr (.inr (.inr (fun j => if j < 8 then some (a2 + 1 + j) else none)))))), (a2 + 1 + 0, .inl (cy 1, 41, .inl (fun _ => nI 0))), (a2 + 1 + 1, .inl (cy 1, 41, .inl (fun _ => nI 0))), (a2 + 1 + 2, .inl (cy 1, 41, .inl (fun _ => nI 0))), (a2 + 1 + 3, .inl (cy 1, 41, .inl (fun _ => nI 0))), (a2 + 1 + 4, .inl (cy 1, 41, .inl (fun _ => nI 0))), (a2 + 1 + 5, .inl (cy 1, 41, .inl (fun _ => nI 0))), (a2 + 1 + 6, .inl (cy 1, 41, .inl (fun _ => nI 0))), (a2 + 1 + 7, .inl (cy 1, 41, .inl (fun _ => nI 0))), (a3, .inl (cy 1, 8, .inl (fun _ => nI 0))), (a4, .inl (cy 1, 8, .inl (fun _ => nI 0)))]) C (by decide) dX7_init_46 ff_X7_26 rfl rfl rfl (Nat.le_of_ble_eq_true rfl) rfl ?_
  exact an_vret C hr dX7_init_49 ⟨a1, a2, a3, a4, rfl⟩
theorem ff_X4_9 : FF RX4 9 4 2 (.array .int) := ⟨TX4, 4, tyX4, rfl, by decide, uw_X4, rfl, gw_at 198 (by decide +kernel) rfl, tyX4_ok, nmX4, rfl, by decide +kernel⟩
theorem ff_X4_15 : FF RX4 15 4 3 (.array .int) := ⟨TX4, 4, tyX4, rfl, by decide, uw_X4, rfl, gw_at 199 (by decide +kernel) rfl, tyX4_ok, nmX4, rfl, by decide +kernel⟩
theorem ff_X4_18 : FF RX4 18 4 0 (.object "BondedWires$Bench") := ⟨TX4, 4, tyX4, rfl, by decide, uw_X4, rfl, gw_at 196 (by decide +kernel) rfl, tyX4_ok, nmX4, rfl, by decide +kernel⟩
theorem ff_X4_22 : FF RX4 22 4 1 (.object "BondedWires$View") := ⟨TX4, 4, tyX4, rfl, by decide, uw_X4, rfl, gw_at 197 (by decide +kernel) rfl, tyX4_ok, nmX4, rfl, by decide +kernel⟩
set_option maxRecDepth 20000 in
theorem ck_X4 {l : Launch} {D : va_G} {cy : Nat → ClassId} {z : Nat → Nat} {sA sV : Nat} {v : Value} {h0 b1 b2 : Nat} : Ck l yX4_init cX4_init 3 1 32 2 264 D cy z sA sV v h0 [.ref b1, .ref b2] 4 [.null, .null, .null, .null] (fun w1 => ∃ a1 a2 : Nat, w1 = [(h0, .inr (4, [.ref b1, .ref b2, .ref a1, .ref a2])), (a1, .inl (cy 1, 8, .inl (fun _ => nI 0))), (a2, .inl (cy 1, 256, .inl (fun _ => nI 0)))]) := by
  refine Ck.of (own := RX4) (by decide) rfl rfl (Nat.le_of_ble_eq_true rfl) ?_
  intro p e s m args below meth c C hr
  refine an_lv (lv' := [(0, .ref h0), (1, .ref b1), (2, .ref b2)]) (fun x hx => hx) ?_
  refine an_aload_n C dX4_init_0 (i := 0) rfl rfl ?_
  refine an_objInit C dX4_init_1 (gw_at 195 (by decide +kernel) rfl) ⟨Nat.le_of_ble_eq_true rfl, Nat.le_of_ble_eq_true rfl⟩ ?_
  refine an_aload_n C dX4_init_4 (i := 0) rfl rfl ?_
  refine an_bipush C dX4_init_5 kb_8 ?_
  refine an_newa (t := 1) (len := 8) (a0 := (8, .inl (fun _ => nI 0))) C dX4_init_7 rfl (gw_at 119 (by decide +kernel) rfl) rfl (fun U cA h9 => h9) (fun _ => rfl) (by decide) (by decide) (Nat.le_of_ble_eq_true rfl) (Nat.le_of_ble_eq_true rfl) (fun a1 => ?_)
  refine an_putF (i := 0) (ws' := [(h0, .inr (4, [.null, .null, .ref a1, .null])), (a1, .inl (cy 1, 8, .inl (fun _ => nI 0)))]) C (by decide) dX4_init_9 ff_X4_9 rfl rfl rfl (Nat.le_of_ble_eq_true rfl) rfl ?_
  refine an_aload_n C dX4_init_12 (i := 0) rfl rfl ?_
  refine an_sipush C dX4_init_13 ks_256 ?_
  refine an_newa (t := 1) (len := 256) (a0 := (256, .inl (fun _ => nI 0))) C dX4_init_16 rfl (gw_at 119 (by decide +kernel) rfl) rfl (fun U cA h9 => h9) (fun _ => rfl) (by decide) (by decide) (Nat.le_of_ble_eq_true rfl) (Nat.le_of_ble_eq_true rfl) (fun a2 => ?_)
  refine an_putF (i := 0) (ws' := [(h0, .inr (4, [.null, .null, .ref a1, .ref a2])), (a1, .inl (cy 1, 8, .inl (fun _ => nI 0))), (a2, .inl (cy 1, 256, .inl (fun _ => nI 0)))]) C (by decide) dX4_init_18 ff_X4_15 rfl rfl rfl (Nat.le_of_ble_eq_true rfl) rfl ?_
  refine an_aload_n C dX4_init_21 (i := 0) rfl rfl ?_
  refine an_aload_n C dX4_init_22 (i := 1) rfl rfl ?_
  refine an_putF (i := 0) (ws' := [(h0, .inr (4, [.ref b1, .null, .ref a1, .ref a2])), (a1, .inl (cy 1, 8, .inl (fun _ => nI 0))), (a2, .inl (cy 1, 256, .inl (fun _ => nI 0)))]) C (by decide) dX4_init_23 ff_X4_18 rfl rfl rfl (Nat.le_of_ble_eq_true rfl) rfl ?_
  refine an_aload_n C dX4_init_26 (i := 0) rfl rfl ?_
  refine an_aload_n C dX4_init_27 (i := 2) rfl rfl ?_
  refine an_putF (i := 0) (ws' := [(h0, .inr (4, [.ref b1, .ref b2, .ref a1, .ref a2])), (a1, .inl (cy 1, 8, .inl (fun _ => nI 0))), (a2, .inl (cy 1, 256, .inl (fun _ => nI 0)))]) C (by decide) dX4_init_28 ff_X4_22 rfl rfl rfl (Nat.le_of_ble_eq_true rfl) rfl ?_
  exact an_vret C hr dX4_init_31 ⟨a1, a2, rfl⟩
theorem ff_X2_9 : FF RX2 9 2 2 (.array .int) := ⟨TX2, 7, tyX2, rfl, by decide, uw_X2, rfl, gw_at 217 (by decide +kernel) rfl, tyX2_ok, nmX2, rfl, by decide +kernel⟩
theorem ff_X2_15 : FF RX2 15 2 3 (.array .long) := ⟨TX2, 7, tyX2, rfl, by decide, uw_X2, rfl, gw_at 218 (by decide +kernel) rfl, tyX2_ok, nmX2, rfl, by decide +kernel⟩
theorem ff_X2_19 : FF RX2 19 2 0 (.object "BondedWires$Bench") := ⟨TX2, 7, tyX2, rfl, by decide, uw_X2, rfl, gw_at 215 (by decide +kernel) rfl, tyX2_ok, nmX2, rfl, by decide +kernel⟩
theorem ff_X2_23 : FF RX2 23 2 1 (.object "BondedWires$View") := ⟨TX2, 7, tyX2, rfl, by decide, uw_X2, rfl, gw_at 216 (by decide +kernel) rfl, tyX2_ok, nmX2, rfl, by decide +kernel⟩
set_option maxRecDepth 20000 in
theorem ck_X2 {l : Launch} {D : va_G} {cy : Nat → ClassId} {z : Nat → Nat} {sA sV : Nat} {v : Value} {h0 b1 b2 : Nat} : Ck l yX2_init cX2_init 3 1 32 2 49 D cy z sA sV v h0 [.ref b1, .ref b2] 2 [.null, .null, .null, .null, .int (nI 0), .int (nI 0), .int (nI 0)] (fun w1 => ∃ a1 a2 : Nat, w1 = [(h0, .inr (2, [.ref b1, .ref b2, .ref a1, .ref a2, .int (nI 0), .int (nI 0), .int (nI 0)])), (a1, .inl (cy 1, 41, .inl (fun _ => nI 0))), (a2, .inl (cy 2, 8, .inr (.inl (fun _ => 0))))]) := by
  refine Ck.of (own := RX2) (by decide) rfl rfl (Nat.le_of_ble_eq_true rfl) ?_
  intro p e s m args below meth c C hr
  refine an_lv (lv' := [(0, .ref h0), (1, .ref b1), (2, .ref b2)]) (fun x hx => hx) ?_
  refine an_aload_n C dX2_init_0 (i := 0) rfl rfl ?_
  refine an_objInit C dX2_init_1 (gw_at 214 (by decide +kernel) rfl) ⟨Nat.le_of_ble_eq_true rfl, Nat.le_of_ble_eq_true rfl⟩ ?_
  refine an_aload_n C dX2_init_4 (i := 0) rfl rfl ?_
  refine an_bipush C dX2_init_5 kb_41 ?_
  refine an_newa (t := 1) (len := 41) (a0 := (41, .inl (fun _ => nI 0))) C dX2_init_7 rfl (gw_at 119 (by decide +kernel) rfl) rfl (fun U cA h9 => h9) (fun _ => rfl) (by decide) (by decide) (Nat.le_of_ble_eq_true rfl) (Nat.le_of_ble_eq_true rfl) (fun a1 => ?_)
  refine an_putF (i := 0) (ws' := [(h0, .inr (2, [.null, .null, .ref a1, .null, .int (nI 0), .int (nI 0), .int (nI 0)])), (a1, .inl (cy 1, 41, .inl (fun _ => nI 0)))]) C (by decide) dX2_init_9 ff_X2_9 rfl rfl rfl (Nat.le_of_ble_eq_true rfl) rfl ?_
  refine an_aload_n C dX2_init_12 (i := 0) rfl rfl ?_
  refine an_bipush C dX2_init_13 kb_8 ?_
  refine an_newa (t := 2) (len := 8) (a0 := (8, .inr (.inl (fun _ => 0)))) C dX2_init_15 rfl (gw_at 239 (by decide +kernel) rfl) rfl (fun U cA h9 => h9) (fun _ => rfl) (by decide) (by decide) (Nat.le_of_ble_eq_true rfl) (Nat.le_of_ble_eq_true rfl) (fun a2 => ?_)
  refine an_putF (i := 0) (ws' := [(h0, .inr (2, [.null, .null, .ref a1, .ref a2, .int (nI 0), .int (nI 0), .int (nI 0)])), (a1, .inl (cy 1, 41, .inl (fun _ => nI 0))), (a2, .inl (cy 2, 8, .inr (.inl (fun _ => 0))))]) C (by decide) dX2_init_17 ff_X2_15 rfl rfl rfl (Nat.le_of_ble_eq_true rfl) rfl ?_
  refine an_aload_n C dX2_init_20 (i := 0) rfl rfl ?_
  refine an_aload_n C dX2_init_21 (i := 1) rfl rfl ?_
  refine an_putF (i := 0) (ws' := [(h0, .inr (2, [.ref b1, .null, .ref a1, .ref a2, .int (nI 0), .int (nI 0), .int (nI 0)])), (a1, .inl (cy 1, 41, .inl (fun _ => nI 0))), (a2, .inl (cy 2, 8, .inr (.inl (fun _ => 0))))]) C (by decide) dX2_init_22 ff_X2_19 rfl rfl rfl (Nat.le_of_ble_eq_true rfl) rfl ?_
  refine an_aload_n C dX2_init_25 (i := 0) rfl rfl ?_
  refine an_aload_n C dX2_init_26 (i := 2) rfl rfl ?_
  refine an_putF (i := 0) (ws' := [(h0, .inr (2, [.ref b1, .ref b2, .ref a1, .ref a2, .int (nI 0), .int (nI 0), .int (nI 0)])), (a1, .inl (cy 1, 41, .inl (fun _ => nI 0))), (a2, .inl (cy 2, 8, .inr (.inl (fun _ => 0))))]) C (by decide) dX2_init_27 ff_X2_23 rfl rfl rfl (Nat.le_of_ble_eq_true rfl) rfl ?_
  exact an_vret C hr dX2_init_30 ⟨a1, a2, rfl⟩
theorem ff_X5_9 : FF RX5 9 5 1 (.array .boolean) := ⟨TX5, 6, tyX5, rfl, by decide, uw_X5, rfl, gw_at 247 (by decide +kernel) rfl, tyX5_ok, nmX5, rfl, by decide +kernel⟩
theorem ff_X5_15 : FF RX5 15 5 2 (.array .int) := ⟨TX5, 6, tyX5, rfl, by decide, uw_X5, rfl, gw_at 248 (by decide +kernel) rfl, tyX5_ok, nmX5, rfl, by decide +kernel⟩
theorem ff_X5_19 : FF RX5 19 5 3 (.array .int) := ⟨TX5, 6, tyX5, rfl, by decide, uw_X5, rfl, gw_at 249 (by decide +kernel) rfl, tyX5_ok, nmX5, rfl, by decide +kernel⟩
theorem ff_X5_22 : FF RX5 22 5 4 (.array .int) := ⟨TX5, 6, tyX5, rfl, by decide, uw_X5, rfl, gw_at 250 (by decide +kernel) rfl, tyX5_ok, nmX5, rfl, by decide +kernel⟩
theorem ff_X5_25 : FF RX5 25 5 5 (.array .int) := ⟨TX5, 6, tyX5, rfl, by decide, uw_X5, rfl, gw_at 251 (by decide +kernel) rfl, tyX5_ok, nmX5, rfl, by decide +kernel⟩
theorem ff_X5_28 : FF RX5 28 5 0 (.object "BondedWires$Bench") := ⟨TX5, 6, tyX5, rfl, by decide, uw_X5, rfl, gw_at 246 (by decide +kernel) rfl, tyX5_ok, nmX5, rfl, by decide +kernel⟩
set_option maxRecDepth 20000 in
theorem ck_X5 {l : Launch} {D : va_G} {cy : Nat → ClassId} {z : Nat → Nat} {sA sV : Nat} {v : Value} {h0 b1 : Nat} : Ck l yX5_init cX5_init 2 1 32 5 10 D cy z sA sV v h0 [.ref b1] 5 [.null, .null, .null, .null, .null, .null] (fun w1 => ∃ a1 a2 a3 a4 a5 : Nat, w1 = [(h0, .inr (5, [.ref b1, .ref a1, .ref a2, .ref a3, .ref a4, .ref a5])), (a1, .inl (cy 3, 2, .inl (fun _ => nI 0))), (a2, .inl (cy 1, 2, .inl (fun _ => nI 0))), (a3, .inl (cy 1, 2, .inl (fun _ => nI 0))), (a4, .inl (cy 1, 2, .inl (fun _ => nI 0))), (a5, .inl (cy 1, 2, .inl (fun _ => nI 0)))]) := by
  refine Ck.of (own := RX5) (by decide) rfl rfl (Nat.le_of_ble_eq_true rfl) ?_
  intro p e s m args below meth c C hr
  refine an_lv (lv' := [(0, .ref h0), (1, .ref b1)]) (fun x hx => hx) ?_
  refine an_aload_n C dX5_init_0 (i := 0) rfl rfl ?_
  refine an_objInit C dX5_init_1 (gw_at 245 (by decide +kernel) rfl) ⟨Nat.le_of_ble_eq_true rfl, Nat.le_of_ble_eq_true rfl⟩ ?_
  refine an_aload_n C dX5_init_4 (i := 0) rfl rfl ?_
  refine an_iconst C dX5_init_5 ki_2 ?_
  refine an_newa (t := 3) (len := 2) (a0 := (2, .inl (fun _ => nI 0))) C dX5_init_6 rfl (gw_at 265 (by decide +kernel) rfl) rfl (fun U cA h9 => h9) (fun _ => rfl) (by decide) (by decide) (Nat.le_of_ble_eq_true rfl) (Nat.le_of_ble_eq_true rfl) (fun a1 => ?_)
  refine an_putF (i := 0) (ws' := [(h0, .inr (5, [.null, .ref a1, .null, .null, .null, .null])), (a1, .inl (cy 3, 2, .inl (fun _ => nI 0)))]) C (by decide) dX5_init_8 ff_X5_9 rfl rfl rfl (Nat.le_of_ble_eq_true rfl) rfl ?_
  refine an_aload_n C dX5_init_11 (i := 0) rfl rfl ?_
  refine an_iconst C dX5_init_12 ki_2 ?_
  refine an_newa (t := 1) (len := 2) (a0 := (2, .inl (fun _ => nI 0))) C dX5_init_13 rfl (gw_at 119 (by decide +kernel) rfl) rfl (fun U cA h9 => h9) (fun _ => rfl) (by decide) (by decide) (Nat.le_of_ble_eq_true rfl) (Nat.le_of_ble_eq_true rfl) (fun a2 => ?_)
  refine an_putF (i := 0) (ws' := [(h0, .inr (5, [.null, .ref a1, .ref a2, .null, .null, .null])), (a1, .inl (cy 3, 2, .inl (fun _ => nI 0))), (a2, .inl (cy 1, 2, .inl (fun _ => nI 0)))]) C (by decide) dX5_init_15 ff_X5_15 rfl rfl rfl (Nat.le_of_ble_eq_true rfl) rfl ?_
  refine an_aload_n C dX5_init_18 (i := 0) rfl rfl ?_
  refine an_iconst C dX5_init_19 ki_2 ?_
  refine an_newa (t := 1) (len := 2) (a0 := (2, .inl (fun _ => nI 0))) C dX5_init_20 rfl (gw_at 119 (by decide +kernel) rfl) rfl (fun U cA h9 => h9) (fun _ => rfl) (by decide) (by decide) (Nat.le_of_ble_eq_true rfl) (Nat.le_of_ble_eq_true rfl) (fun a3 => ?_)
  refine an_putF (i := 0) (ws' := [(h0, .inr (5, [.null, .ref a1, .ref a2, .ref a3, .null, .null])), (a1, .inl (cy 3, 2, .inl (fun _ => nI 0))), (a2, .inl (cy 1, 2, .inl (fun _ => nI 0))), (a3, .inl (cy 1, 2, .inl (fun _ => nI 0)))]) C (by decide) dX5_init_22 ff_X5_19 rfl rfl rfl (Nat.le_of_ble_eq_true rfl) rfl ?_
  refine an_aload_n C dX5_init_25 (i := 0) rfl rfl ?_
  refine an_iconst C dX5_init_26 ki_2 ?_
  refine an_newa (t := 1) (len := 2) (a0 := (2, .inl (fun _ => nI 0))) C dX5_init_27 rfl (gw_at 119 (by decide +kernel) rfl) rfl (fun U cA h9 => h9) (fun _ => rfl) (by decide) (by decide) (Nat.le_of_ble_eq_true rfl) (Nat.le_of_ble_eq_true rfl) (fun a4 => ?_)
  refine an_putF (i := 0) (ws' := [(h0, .inr (5, [.null, .ref a1, .ref a2, .ref a3, .ref a4, .null])), (a1, .inl (cy 3, 2, .inl (fun _ => nI 0))), (a2, .inl (cy 1, 2, .inl (fun _ => nI 0))), (a3, .inl (cy 1, 2, .inl (fun _ => nI 0))), (a4, .inl (cy 1, 2, .inl (fun _ => nI 0)))]) C (by decide) dX5_init_29 ff_X5_22 rfl rfl rfl (Nat.le_of_ble_eq_true rfl) rfl ?_
  refine an_aload_n C dX5_init_32 (i := 0) rfl rfl ?_
  refine an_iconst C dX5_init_33 ki_2 ?_
  refine an_newa (t := 1) (len := 2) (a0 := (2, .inl (fun _ => nI 0))) C dX5_init_34 rfl (gw_at 119 (by decide +kernel) rfl) rfl (fun U cA h9 => h9) (fun _ => rfl) (by decide) (by decide) (Nat.le_of_ble_eq_true rfl) (Nat.le_of_ble_eq_true rfl) (fun a5 => ?_)
  refine an_putF (i := 0) (ws' := [(h0, .inr (5, [.null, .ref a1, .ref a2, .ref a3, .ref a4, .ref a5])), (a1, .inl (cy 3, 2, .inl (fun _ => nI 0))), (a2, .inl (cy 1, 2, .inl (fun _ => nI 0))), (a3, .inl (cy 1, 2, .inl (fun _ => nI 0))), (a4, .inl (cy 1, 2, .inl (fun _ => nI 0))), (a5, .inl (cy 1, 2, .inl (fun _ => nI 0)))]) C (by decide) dX5_init_36 ff_X5_25 rfl rfl rfl (Nat.le_of_ble_eq_true rfl) rfl ?_
  refine an_aload_n C dX5_init_39 (i := 0) rfl rfl ?_
  refine an_aload_n C dX5_init_40 (i := 1) rfl rfl ?_
  refine an_putF (i := 0) (ws' := [(h0, .inr (5, [.ref b1, .ref a1, .ref a2, .ref a3, .ref a4, .ref a5])), (a1, .inl (cy 3, 2, .inl (fun _ => nI 0))), (a2, .inl (cy 1, 2, .inl (fun _ => nI 0))), (a3, .inl (cy 1, 2, .inl (fun _ => nI 0))), (a4, .inl (cy 1, 2, .inl (fun _ => nI 0))), (a5, .inl (cy 1, 2, .inl (fun _ => nI 0)))]) C (by decide) dX5_init_41 ff_X5_28 rfl rfl rfl (Nat.le_of_ble_eq_true rfl) rfl ?_
  exact an_vret C hr dX5_init_44 ⟨a1, a2, a3, a4, a5, rfl⟩
