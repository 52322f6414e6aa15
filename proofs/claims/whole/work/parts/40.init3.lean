-- the reference's constructor
def fwN : List Nat := [10, 0, 8, 1, 12, 14, 0, 16, 1, 12, 18, 1, 24, 2, 16, 22, 2, 20, 0, 6, 26, 0, 32, 1, 9]
def fwK : Nat → Nat → Int32
  | 0 => fun _ => nI 0
  | n + 1 => upd (fwK n) n (nI (fwN.getD n 0))
def zI : Nat → Int32 := fun _ => nI 0
/-- the row that a new object begins with -/
def h0R : Nat → Int32 := upd (upd (upd (cpG (fwK 25) zI 25) 40 (nI 2)) 41 (nI 6)) 42 (nI 2)
section INI3
variable {p : Program} {l : Launch} {e : Env} {R : Room} {s : State} {m : MethodId} {args : Array Value} {below : List Frame} {meth : Method} {c : Code} {Q : State → Prop}
variable {cc : ByteArray} {nL : Nat} {own : String} {D : va_G} {cy : Nat → ClassId} {z : Nat → Nat} {sA sV : Nat} {v : Value} {A : Nat → Prop} {k n : Nat}
variable {ws : va_W} {lv : List (Nat × Value)} {pc : Nat} {st : List Value}
theorem wl_I {N : Nat} {q : Nat → Nat} {f : wS} {A : Nat → Prop} (hD : va_D A (wl N q f)) : wI N q := fun i j hi hj h => hD.1 i j (q i, f i) (q j, f j) (wl_get hi) (wl_get hj) h
theorem an_wI {N : Nat} {q : Nat → Nat} {f : wS} (K : wI N q → AN p l e R s m args below meth c D A nL Q k n (wl N q f) lv pc st) : AN p l e R s m args below meth c D A nL Q k n (wl N q f) lv pc st := fun H locs ls hP hD hS hv => K (wl_I hD) H locs ls hP hD hS hv
end INI3
theorem ff_X9_7 : FF RX9 7 9 1 (.array .int) := ⟨TX9, 16, tyX9, rfl, by decide, uw_X9, rfl, gw_at 773 (by decide +kernel) rfl, tyX9_ok, nmX9, rfl, by decide +kernel⟩
theorem ff_X9_13 : FF RX9 13 9 4 (.array .int) := ⟨TX9, 16, tyX9, rfl, by decide, uw_X9, rfl, gw_at 776 (by decide +kernel) rfl, tyX9_ok, nmX9, rfl, by decide +kernel⟩
theorem ff_X9_16 : FF RX9 16 9 5 (.array .int) := ⟨TX9, 16, tyX9, rfl, by decide, uw_X9, rfl, gw_at 777 (by decide +kernel) rfl, tyX9_ok, nmX9, rfl, by decide +kernel⟩
theorem ff_X9_19 : FF RX9 19 9 9 (.array .int) := ⟨TX9, 16, tyX9, rfl, by decide, uw_X9, rfl, gw_at 781 (by decide +kernel) rfl, tyX9_ok, nmX9, rfl, by decide +kernel⟩
theorem ff_X9_22 : FF RX9 22 9 12 (.array .int) := ⟨TX9, 16, tyX9, rfl, by decide, uw_X9, rfl, gw_at 784 (by decide +kernel) rfl, tyX9_ok, nmX9, rfl, by decide +kernel⟩
theorem ff_X9_25 : FF RX9 25 9 13 (.array .int) := ⟨TX9, 16, tyX9, rfl, by decide, uw_X9, rfl, gw_at 785 (by decide +kernel) rfl, tyX9_ok, nmX9, rfl, by decide +kernel⟩
theorem ff_X9_28 : FF RX9 28 9 14 (.array .int) := ⟨TX9, 16, tyX9, rfl, by decide, uw_X9, rfl, gw_at 786 (by decide +kernel) rfl, tyX9_ok, nmX9, rfl, by decide +kernel⟩
theorem ff_X9_31 : FF RX9 31 9 15 (.array .int) := ⟨TX9, 16, tyX9, rfl, by decide, uw_X9, rfl, gw_at 787 (by decide +kernel) rfl, tyX9_ok, nmX9, rfl, by decide +kernel⟩
set_option maxRecDepth 20000 in
theorem ck_X9_l {l : Launch} {D : va_G} {cy : Nat → ClassId} {z : Nat → Nat} {sA sV : Nat} {v : Value} {p : Program} {e : Env} {s : State} {m : MethodId} {args : Array Value} {below : List Frame} {meth : Method} {c : Code} {Q : State → Prop} {A : Nat → Prop} {k n : Nat} {R : Room} {h0 a1 a2 a3 a4 a5 a6 a7 a8 : Nat} (C : Cn p s m args meth c cX9_init 2 RX9 D cy z sA sV v A) (K : AN p l e R s m args below meth c D A 2 Q k n [(h0, .inr (9, [.int (nI 0), .ref a1, .int (nI 20), .int (nI 5), .ref a2, .ref a3, .int (nI 0), .int (nI 0), .int (nI 0), .ref a4, .int (nI 0), .int (nI 0), .ref a5, .ref a6, .ref a7, .ref a8])), (a1, .inl (cy 1, 200, .inl zI)), (a2, .inl (cy 1, 45, .inl (cpG (fwK 25) zI 25))), (a3, .inl (cy 1, 270, .inl zI)), (a4, .inl (cy 1, 45, .inl zI)), (a5, .inl (cy 1, 10, .inl zI)), (a6, .inl (cy 1, 25, .inl (fwK 25))), (a7, .inl (cy 1, 8, .inl zI)), (a8, .inl (cy 1, 256, .inl zI))] [(0, .ref h0), (1, .int (nI 25))] 242 []) : ∀ (d i : Nat), 25 - i < d → i ≤ 25 → AN p l e R s m args below meth c D A 2 Q k n [(h0, .inr (9, [.int (nI 0), .ref a1, .int (nI 20), .int (nI 5), .ref a2, .ref a3, .int (nI 0), .int (nI 0), .int (nI 0), .ref a4, .int (nI 0), .int (nI 0), .ref a5, .ref a6, .ref a7, .ref a8])), (a1, .inl (cy 1, 200, .inl zI)), (a2, .inl (cy 1, 45, .inl (cpG (fwK 25) zI i))), (a3, .inl (cy 1, 270, .inl zI)), (a4, .inl (cy 1, 45, .inl zI)), (a5, .inl (cy 1, 10, .inl zI)), (a6, .inl (cy 1, 25, .inl (fwK 25))), (a7, .inl (cy 1, 8, .inl zI)), (a8, .inl (cy 1, 256, .inl zI))] [(0, .ref h0), (1, .int (nI i))] 218 [] := by
  intro d
  induction d with
  | zero => intro i h; exact absurd h (Nat.not_lt_zero _)
  | succ d ih =>
    intro i hd hi
    refine an_iload_n C dX9_init_218 (i := 1) rfl rfl ?_
    refine an_bipush C dX9_init_219 kb_25 ?_
    refine an_icmp_ge (tgt := 242) C dX9_init_221 (by decide) (by omega) (by omega) (fun h => ?_) (fun h => ?_)
    · obtain rfl : i = 25 := by omega
      exact K
    · refine an_aload_n C dX9_init_224 (i := 0) rfl rfl ?_
      refine an_get (i := 0) C dX9_init_225 fl_X9_13 rfl rfl ?_
      refine an_iload_n C dX9_init_228 (i := 1) rfl rfl ?_
      refine an_aload_n C dX9_init_229 (i := 0) rfl rfl ?_
      refine an_get (i := 0) C dX9_init_230 fl_X9_25 rfl rfl ?_
      refine an_iload_n C dX9_init_233 (i := 1) rfl rfl ?_
      refine an_iald (i := 6) C dX9_init_234 rfl h (by decide) ?_
      refine an_iast (i := 2) (ws' := [(h0, .inr (9, [.int (nI 0), .ref a1, .int (nI 20), .int (nI 5), .ref a2, .ref a3, .int (nI 0), .int (nI 0), .int (nI 0), .ref a4, .int (nI 0), .int (nI 0), .ref a5, .ref a6, .ref a7, .ref a8])), (a1, .inl (cy 1, 200, .inl zI)), (a2, .inl (cy 1, 45, .inl (cpG (fwK 25) zI (i + 1)))), (a3, .inl (cy 1, 270, .inl zI)), (a4, .inl (cy 1, 45, .inl zI)), (a5, .inl (cy 1, 10, .inl zI)), (a6, .inl (cy 1, 25, .inl (fwK 25))), (a7, .inl (cy 1, 8, .inl zI)), (a8, .inl (cy 1, 256, .inl zI))]) C dX9_init_235 rfl (by omega) (by decide) (by rw [cpG_s]; rfl) ?_
      refine an_iinc (lv' := [(0, .ref h0), (1, .int (nI (i + 1)))]) C dX9_init_236 rfl ki_1 (Nat.le_of_ble_eq_true rfl) rfl ?_
      refine an_goto (tgt := 218) C dX9_init_239 (by decide) ?_
      exact ih (i + 1) (by omega) (by omega)
set_option maxRecDepth 20000 in
theorem ck_X9 {l : Launch} {D : va_G} {cy : Nat → ClassId} {z : Nat → Nat} {sA sV : Nat} {v : Value} {h0 : Nat} : Ck l yX9_init cX9_init 2 1 32 8 859 D cy z sA sV v h0 [] 9 [.int (nI 0), .null, .int (nI 0), .int (nI 0), .null, .null, .int (nI 0), .int (nI 0), .int (nI 0), .null, .int (nI 0), .int (nI 0), .null, .null, .null, .null] (fun w1 => ∃ q : Nat → Nat, q 0 = h0 ∧ wI 9 q ∧ w1 = wl 9 q (mdC cy q 0 20 5 0 0 0 0 0 (fun _ => 0) h0R zI zI zI (fwK 25) zI zI)) := by
  refine Ck.of (own := RX9) (by decide) rfl rfl (Nat.le_of_ble_eq_true rfl) ?_
  intro p e s m args below meth c C hr
  refine an_lv (lv' := [(0, .ref h0)]) (fun x hx => hx) ?_
  refine an_aload_n C dX9_init_0 (i := 0) rfl rfl ?_
  refine an_objInit C dX9_init_1 (gw_at 771 (by decide +kernel) rfl) ⟨Nat.le_of_ble_eq_true rfl, Nat.le_of_ble_eq_true rfl⟩ ?_
  refine an_aload_n C dX9_init_4 (i := 0) rfl rfl ?_
  refine an_sipush C dX9_init_5 ks_200 ?_
  refine an_newa (t := 1) (len := 200) (a0 := (200, .inl zI)) C dX9_init_8 rfl (gw_at 119 (by decide +kernel) rfl) rfl (fun U cA h9 => h9) (fun _ => rfl) (by decide) (by decide) (Nat.le_of_ble_eq_true rfl) (Nat.le_of_ble_eq_true rfl) (fun a1 => ?_)
  refine an_putF (i := 0) (ws' := [(h0, .inr (9, [.int (nI 0), .ref a1, .int (nI 0), .int (nI 0), .null, .null, .int (nI 0), .int (nI 0), .int (nI 0), .null, .int (nI 0), .int (nI 0), .null, .null, .null, .null])), (a1, .inl (cy 1, 200, .inl zI))]) C (by decide) dX9_init_10 ff_X9_7 rfl rfl rfl (Nat.le_of_ble_eq_true rfl) rfl ?_
  refine an_aload_n C dX9_init_13 (i := 0) rfl rfl ?_
  refine an_bipush C dX9_init_14 kb_45 ?_
  refine an_newa (t := 1) (len := 45) (a0 := (45, .inl zI)) C dX9_init_16 rfl (gw_at 119 (by decide +kernel) rfl) rfl (fun U cA h9 => h9) (fun _ => rfl) (by decide) (by decide) (Nat.le_of_ble_eq_true rfl) (Nat.le_of_ble_eq_true rfl) (fun a2 => ?_)
  refine an_putF (i := 0) (ws' := [(h0, .inr (9, [.int (nI 0), .ref a1, .int (nI 0), .int (nI 0), .ref a2, .null, .int (nI 0), .int (nI 0), .int (nI 0), .null, .int (nI 0), .int (nI 0), .null, .null, .null, .null])), (a1, .inl (cy 1, 200, .inl zI)), (a2, .inl (cy 1, 45, .inl zI))]) C (by decide) dX9_init_18 ff_X9_13 rfl rfl rfl (Nat.le_of_ble_eq_true rfl) rfl ?_
  refine an_aload_n C dX9_init_21 (i := 0) rfl rfl ?_
  refine an_sipush C dX9_init_22 ks_270 ?_
  refine an_newa (t := 1) (len := 270) (a0 := (270, .inl zI)) C dX9_init_25 rfl (gw_at 119 (by decide +kernel) rfl) rfl (fun U cA h9 => h9) (fun _ => rfl) (by decide) (by decide) (Nat.le_of_ble_eq_true rfl) (Nat.le_of_ble_eq_true rfl) (fun a3 => ?_)
  refine an_putF (i := 0) (ws' := [(h0, .inr (9, [.int (nI 0), .ref a1, .int (nI 0), .int (nI 0), .ref a2, .ref a3, .int (nI 0), .int (nI 0), .int (nI 0), .null, .int (nI 0), .int (nI 0), .null, .null, .null, .null])), (a1, .inl (cy 1, 200, .inl zI)), (a2, .inl (cy 1, 45, .inl zI)), (a3, .inl (cy 1, 270, .inl zI))]) C (by decide) dX9_init_27 ff_X9_16 rfl rfl rfl (Nat.le_of_ble_eq_true rfl) rfl ?_
  refine an_aload_n C dX9_init_30 (i := 0) rfl rfl ?_
  refine an_bipush C dX9_init_31 kb_45 ?_
  refine an_newa (t := 1) (len := 45) (a0 := (45, .inl zI)) C dX9_init_33 rfl (gw_at 119 (by decide +kernel) rfl) rfl (fun U cA h9 => h9) (fun _ => rfl) (by decide) (by decide) (Nat.le_of_ble_eq_true rfl) (Nat.le_of_ble_eq_true rfl) (fun a4 => ?_)
  refine an_putF (i := 0) (ws' := [(h0, .inr (9, [.int (nI 0), .ref a1, .int (nI 0), .int (nI 0), .ref a2, .ref a3, .int (nI 0), .int (nI 0), .int (nI 0), .ref a4, .int (nI 0), .int (nI 0), .null, .null, .null, .null])), (a1, .inl (cy 1, 200, .inl zI)), (a2, .inl (cy 1, 45, .inl zI)), (a3, .inl (cy 1, 270, .inl zI)), (a4, .inl (cy 1, 45, .inl zI))]) C (by decide) dX9_init_35 ff_X9_19 rfl rfl rfl (Nat.le_of_ble_eq_true rfl) rfl ?_
  refine an_aload_n C dX9_init_38 (i := 0) rfl rfl ?_
  refine an_bipush C dX9_init_39 kb_10 ?_
  refine an_newa (t := 1) (len := 10) (a0 := (10, .inl zI)) C dX9_init_41 rfl (gw_at 119 (by decide +kernel) rfl) rfl (fun U cA h9 => h9) (fun _ => rfl) (by decide) (by decide) (Nat.le_of_ble_eq_true rfl) (Nat.le_of_ble_eq_true rfl) (fun a5 => ?_)
  refine an_putF (i := 0) (ws' := [(h0, .inr (9, [.int (nI 0), .ref a1, .int (nI 0), .int (nI 0), .ref a2, .ref a3, .int (nI 0), .int (nI 0), .int (nI 0), .ref a4, .int (nI 0), .int (nI 0), .ref a5, .null, .null, .null])), (a1, .inl (cy 1, 200, .inl zI)), (a2, .inl (cy 1, 45, .inl zI)), (a3, .inl (cy 1, 270, .inl zI)), (a4, .inl (cy 1, 45, .inl zI)), (a5, .inl (cy 1, 10, .inl zI))]) C (by decide) dX9_init_43 ff_X9_22 rfl rfl rfl (Nat.le_of_ble_eq_true rfl) rfl ?_
  refine an_aload_n C dX9_init_46 (i := 0) rfl rfl ?_
  refine an_bipush C dX9_init_47 kb_25 ?_
  refine an_newa (t := 1) (len := 25) (a0 := (25, .inl zI)) C dX9_init_49 rfl (gw_at 119 (by decide +kernel) rfl) rfl (fun U cA h9 => h9) (fun _ => rfl) (by decide) (by decide) (Nat.le_of_ble_eq_true rfl) (Nat.le_of_ble_eq_true rfl) (fun a6 => ?_)
  refine an_dup C dX9_init_51 rfl ?_
  refine an_iconst C dX9_init_52 ki_0 ?_
  refine an_bipush C dX9_init_53 kb_10 ?_
  refine an_iast (i := 6) (ws' := [(h0, .inr (9, [.int (nI 0), .ref a1, .int (nI 0), .int (nI 0), .ref a2, .ref a3, .int (nI 0), .int (nI 0), .int (nI 0), .ref a4, .int (nI 0), .int (nI 0), .ref a5, .null, .null, .null])), (a1, .inl (cy 1, 200, .inl zI)), (a2, .inl (cy 1, 45, .inl zI)), (a3, .inl (cy 1, 270, .inl zI)), (a4, .inl (cy 1, 45, .inl zI)), (a5, .inl (cy 1, 10, .inl zI)), (a6, .inl (cy 1, 25, .inl (fwK 1)))]) C dX9_init_55 rfl (by decide) (by decide) rfl ?_
  refine an_dup C dX9_init_56 rfl ?_
  refine an_iconst C dX9_init_57 ki_1 ?_
  refine an_iconst C dX9_init_58 ki_0 ?_
  refine an_iast (i := 6) (ws' := [(h0, .inr (9, [.int (nI 0), .ref a1, .int (nI 0), .int (nI 0), .ref a2, .ref a3, .int (nI 0), .int (nI 0), .int (nI 0), .ref a4, .int (nI 0), .int (nI 0), .ref a5, .null, .null, .null])), (a1, .inl (cy 1, 200, .inl zI)), (a2, .inl (cy 1, 45, .inl zI)), (a3, .inl (cy 1, 270, .inl zI)), (a4, .inl (cy 1, 45, .inl zI)), (a5, .inl (cy 1, 10, .inl zI)), (a6, .inl (cy 1, 25, .inl (fwK 2)))]) C dX9_init_59 rfl (by decide) (by decide) rfl ?_
  refine an_dup C dX9_init_60 rfl ?_
  refine an_iconst C dX9_init_61 ki_2 ?_
  refine an_bipush C dX9_init_62 kb_8 ?_
  refine an_iast (i := 6) (ws' := [(h0, .inr (9, [.int (nI 0), .ref a1, .int (nI 0), .int (nI 0), .ref a2, .ref a3, .int (nI 0), .int (nI 0), .int (nI 0), .ref a4, .int (nI 0), .int (nI 0), .ref a5, .null, .null, .null])), (a1, .inl (cy 1, 200, .inl zI)), (a2, .inl (cy 1, 45, .inl zI)), (a3, .inl (cy 1, 270, .inl zI)), (a4, .inl (cy 1, 45, .inl zI)), (a5, .inl (cy 1, 10, .inl zI)), (a6, .inl (cy 1, 25, .inl (fwK 3)))]) C dX9_init_64 rfl (by decide) (by decide) rfl ?_
  refine an_dup C dX9_init_65 rfl ?_
  refine an_iconst C dX9_init_66 ki_3 ?_
  refine an_iconst C dX9_init_67 ki_1 ?_
  refine an_iast (i := 6) (ws' := [(h0, .inr (9, [.int (nI 0), .ref a1, .int (nI 0), .int (nI 0), .ref a2, .ref a3, .int (nI 0), .int (nI 0), .int (nI 0), .ref a4, .int (nI 0), .int (nI 0), .ref a5, .null, .null, .null])), (a1, .inl (cy 1, 200, .inl zI)), (a2, .inl (cy 1, 45, .inl zI)), (a3, .inl (cy 1, 270, .inl zI)), (a4, .inl (cy 1, 45, .inl zI)), (a5, .inl (cy 1, 10, .inl zI)), (a6, .inl (cy 1, 25, .inl (fwK 4)))]) C dX9_init_68 rfl (by decide) (by decide) rfl ?_
  refine an_dup C dX9_init_69 rfl ?_
  refine an_iconst C dX9_init_70 ki_4 ?_
  refine an_bipush C dX9_init_71 kb_12 ?_
  refine an_iast (i := 6) (ws' := [(h0, .inr (9, [.int (nI 0), .ref a1, .int (nI 0), .int (nI 0), .ref a2, .ref a3, .int (nI 0), .int (nI 0), .int (nI 0), .ref a4, .int (nI 0), .int (nI 0), .ref a5, .null, .null, .null])), (a1, .inl (cy 1, 200, .inl zI)), (a2, .inl (cy 1, 45, .inl zI)), (a3, .inl (cy 1, 270, .inl zI)), (a4, .inl (cy 1, 45, .inl zI)), (a5, .inl (cy 1, 10, .inl zI)), (a6, .inl (cy 1, 25, .inl (fwK 5)))]) C dX9_init_73 rfl (by decide) (by decide) rfl ?_
  refine an_dup C dX9_init_74 rfl ?_
  refine an_iconst C dX9_init_75 ki_5 ?_
  refine an_bipush C dX9_init_76 kb_14 ?_
  refine an_iast (i := 6) (ws' := [(h0, .inr (9, [.int (nI 0), .ref a1, .int (nI 0), .int (nI 0), .ref a2, .ref a3, .int (nI 0), .int (nI 0), .int (nI 0), .ref a4, .int (nI 0), .int (nI 0), .ref a5, .null, .null, .null])), (a1, .inl (cy 1, 200, .inl zI)), (a2, .inl (cy 1, 45, .inl zI)), (a3, .inl (cy 1, 270, .inl zI)), (a4, .inl (cy 1, 45, .inl zI)), (a5, .inl (cy 1, 10, .inl zI)), (a6, .inl (cy 1, 25, .inl (fwK 6)))]) C dX9_init_78 rfl (by decide) (by decide) rfl ?_
  refine an_dup C dX9_init_79 rfl ?_
  refine an_bipush C dX9_init_80 kb_6 ?_
  refine an_iconst C dX9_init_82 ki_0 ?_
  refine an_iast (i := 6) (ws' := [(h0, .inr (9, [.int (nI 0), .ref a1, .int (nI 0), .int (nI 0), .ref a2, .ref a3, .int (nI 0), .int (nI 0), .int (nI 0), .ref a4, .int (nI 0), .int (nI 0), .ref a5, .null, .null, .null])), (a1, .inl (cy 1, 200, .inl zI)), (a2, .inl (cy 1, 45, .inl zI)), (a3, .inl (cy 1, 270, .inl zI)), (a4, .inl (cy 1, 45, .inl zI)), (a5, .inl (cy 1, 10, .inl zI)), (a6, .inl (cy 1, 25, .inl (fwK 7)))]) C dX9_init_83 rfl (by decide) (by decide) rfl ?_
  refine an_dup C dX9_init_84 rfl ?_
  refine an_bipush C dX9_init_85 kb_7 ?_
  refine an_bipush C dX9_init_87 kb_16 ?_
  refine an_iast (i := 6) (ws' := [(h0, .inr (9, [.int (nI 0), .ref a1, .int (nI 0), .int (nI 0), .ref a2, .ref a3, .int (nI 0), .int (nI 0), .int (nI 0), .ref a4, .int (nI 0), .int (nI 0), .ref a5, .null, .null, .null])), (a1, .inl (cy 1, 200, .inl zI)), (a2, .inl (cy 1, 45, .inl zI)), (a3, .inl (cy 1, 270, .inl zI)), (a4, .inl (cy 1, 45, .inl zI)), (a5, .inl (cy 1, 10, .inl zI)), (a6, .inl (cy 1, 25, .inl (fwK 8)))]) C dX9_init_89 rfl (by decide) (by decide) rfl ?_
  refine an_dup C dX9_init_90 rfl ?_
  refine an_bipush C dX9_init_91 kb_8 ?_
  refine an_iconst C dX9_init_93 ki_1 ?_
  refine an_iast (i := 6) (ws' := [(h0, .inr (9, [.int (nI 0), .ref a1, .int (nI 0), .int (nI 0), .ref a2, .ref a3, .int (nI 0), .int (nI 0), .int (nI 0), .ref a4, .int (nI 0), .int (nI 0), .ref a5, .null, .null, .null])), (a1, .inl (cy 1, 200, .inl zI)), (a2, .inl (cy 1, 45, .inl zI)), (a3, .inl (cy 1, 270, .inl zI)), (a4, .inl (cy 1, 45, .inl zI)), (a5, .inl (cy 1, 10, .inl zI)), (a6, .inl (cy 1, 25, .inl (fwK 9)))]) C dX9_init_94 rfl (by decide) (by decide) rfl ?_
  refine an_dup C dX9_init_95 rfl ?_
  refine an_bipush C dX9_init_96 kb_9 ?_
  refine an_bipush C dX9_init_98 kb_12 ?_
  refine an_iast (i := 6) (ws' := [(h0, .inr (9, [.int (nI 0), .ref a1, .int (nI 0), .int (nI 0), .ref a2, .ref a3, .int (nI 0), .int (nI 0), .int (nI 0), .ref a4, .int (nI 0), .int (nI 0), .ref a5, .null, .null, .null])), (a1, .inl (cy 1, 200, .inl zI)), (a2, .inl (cy 1, 45, .inl zI)), (a3, .inl (cy 1, 270, .inl zI)), (a4, .inl (cy 1, 45, .inl zI)), (a5, .inl (cy 1, 10, .inl zI)), (a6, .inl (cy 1, 25, .inl (fwK 10)))]) C dX9_init_100 rfl (by decide) (by decide) rfl ?_
  refine an_dup C dX9_init_101 rfl ?_
  refine an_bipush C dX9_init_102 kb_10 ?_
  refine an_bipush C dX9_init_104 kb_18 ?_
  refine an_iast (i := 6) (ws' := [(h0, .inr (9, [.int (nI 0), .ref a1, .int (nI 0), .int (nI 0), .ref a2, .ref a3, .int (nI 0), .int (nI 0), .int (nI 0), .ref a4, .int (nI 0), .int (nI 0), .ref a5, .null, .null, .null])), (a1, .inl (cy 1, 200, .inl zI)), (a2, .inl (cy 1, 45, .inl zI)), (a3, .inl (cy 1, 270, .inl zI)), (a4, .inl (cy 1, 45, .inl zI)), (a5, .inl (cy 1, 10, .inl zI)), (a6, .inl (cy 1, 25, .inl (fwK 11)))]) C dX9_init_106 rfl (by decide) (by decide) rfl ?_
  refine an_dup C dX9_init_107 rfl ?_
  refine an_bipush C dX9_init_108 kb_11 ?_
  refine an_iconst C dX9_init_110 ki_1 ?_
  refine an_iast (i := 6) (ws' := [(h0, .inr (9, [.int (nI 0), .ref a1, .int (nI 0), .int (nI 0), .ref a2, .ref a3, .int (nI 0), .int (nI 0), .int (nI 0), .ref a4, .int (nI 0), .int (nI 0), .ref a5, .null, .null, .null])), (a1, .inl (cy 1, 200, .inl zI)), (a2, .inl (cy 1, 45, .inl zI)), (a3, .inl (cy 1, 270, .inl zI)), (a4, .inl (cy 1, 45, .inl zI)), (a5, .inl (cy 1, 10, .inl zI)), (a6, .inl (cy 1, 25, .inl (fwK 12)))]) C dX9_init_111 rfl (by decide) (by decide) rfl ?_
  refine an_dup C dX9_init_112 rfl ?_
  refine an_bipush C dX9_init_113 kb_12 ?_
  refine an_bipush C dX9_init_115 kb_24 ?_
  refine an_iast (i := 6) (ws' := [(h0, .inr (9, [.int (nI 0), .ref a1, .int (nI 0), .int (nI 0), .ref a2, .ref a3, .int (nI 0), .int (nI 0), .int (nI 0), .ref a4, .int (nI 0), .int (nI 0), .ref a5, .null, .null, .null])), (a1, .inl (cy 1, 200, .inl zI)), (a2, .inl (cy 1, 45, .inl zI)), (a3, .inl (cy 1, 270, .inl zI)), (a4, .inl (cy 1, 45, .inl zI)), (a5, .inl (cy 1, 10, .inl zI)), (a6, .inl (cy 1, 25, .inl (fwK 13)))]) C dX9_init_117 rfl (by decide) (by decide) rfl ?_
  refine an_dup C dX9_init_118 rfl ?_
  refine an_bipush C dX9_init_119 kb_13 ?_
  refine an_iconst C dX9_init_121 ki_2 ?_
  refine an_iast (i := 6) (ws' := [(h0, .inr (9, [.int (nI 0), .ref a1, .int (nI 0), .int (nI 0), .ref a2, .ref a3, .int (nI 0), .int (nI 0), .int (nI 0), .ref a4, .int (nI 0), .int (nI 0), .ref a5, .null, .null, .null])), (a1, .inl (cy 1, 200, .inl zI)), (a2, .inl (cy 1, 45, .inl zI)), (a3, .inl (cy 1, 270, .inl zI)), (a4, .inl (cy 1, 45, .inl zI)), (a5, .inl (cy 1, 10, .inl zI)), (a6, .inl (cy 1, 25, .inl (fwK 14)))]) C dX9_init_122 rfl (by decide) (by decide) rfl ?_
  refine an_dup C dX9_init_123 rfl ?_
  refine an_bipush C dX9_init_124 kb_14 ?_
  refine an_bipush C dX9_init_126 kb_16 ?_
  refine an_iast (i := 6) (ws' := [(h0, .inr (9, [.int (nI 0), .ref a1, .int (nI 0), .int (nI 0), .ref a2, .ref a3, .int (nI 0), .int (nI 0), .int (nI 0), .ref a4, .int (nI 0), .int (nI 0), .ref a5, .null, .null, .null])), (a1, .inl (cy 1, 200, .inl zI)), (a2, .inl (cy 1, 45, .inl zI)), (a3, .inl (cy 1, 270, .inl zI)), (a4, .inl (cy 1, 45, .inl zI)), (a5, .inl (cy 1, 10, .inl zI)), (a6, .inl (cy 1, 25, .inl (fwK 15)))]) C dX9_init_128 rfl (by decide) (by decide) rfl ?_
  refine an_dup C dX9_init_129 rfl ?_
  refine an_bipush C dX9_init_130 kb_15 ?_
  refine an_bipush C dX9_init_132 kb_22 ?_
  refine an_iast (i := 6) (ws' := [(h0, .inr (9, [.int (nI 0), .ref a1, .int (nI 0), .int (nI 0), .ref a2, .ref a3, .int (nI 0), .int (nI 0), .int (nI 0), .ref a4, .int (nI 0), .int (nI 0), .ref a5, .null, .null, .null])), (a1, .inl (cy 1, 200, .inl zI)), (a2, .inl (cy 1, 45, .inl zI)), (a3, .inl (cy 1, 270, .inl zI)), (a4, .inl (cy 1, 45, .inl zI)), (a5, .inl (cy 1, 10, .inl zI)), (a6, .inl (cy 1, 25, .inl (fwK 16)))]) C dX9_init_134 rfl (by decide) (by decide) rfl ?_
  refine an_dup C dX9_init_135 rfl ?_
  refine an_bipush C dX9_init_136 kb_16 ?_
  refine an_iconst C dX9_init_138 ki_2 ?_
  refine an_iast (i := 6) (ws' := [(h0, .inr (9, [.int (nI 0), .ref a1, .int (nI 0), .int (nI 0), .ref a2, .ref a3, .int (nI 0), .int (nI 0), .int (nI 0), .ref a4, .int (nI 0), .int (nI 0), .ref a5, .null, .null, .null])), (a1, .inl (cy 1, 200, .inl zI)), (a2, .inl (cy 1, 45, .inl zI)), (a3, .inl (cy 1, 270, .inl zI)), (a4, .inl (cy 1, 45, .inl zI)), (a5, .inl (cy 1, 10, .inl zI)), (a6, .inl (cy 1, 25, .inl (fwK 17)))]) C dX9_init_139 rfl (by decide) (by decide) rfl ?_
  refine an_dup C dX9_init_140 rfl ?_
  refine an_bipush C dX9_init_141 kb_17 ?_
  refine an_bipush C dX9_init_143 kb_20 ?_
  refine an_iast (i := 6) (ws' := [(h0, .inr (9, [.int (nI 0), .ref a1, .int (nI 0), .int (nI 0), .ref a2, .ref a3, .int (nI 0), .int (nI 0), .int (nI 0), .ref a4, .int (nI 0), .int (nI 0), .ref a5, .null, .null, .null])), (a1, .inl (cy 1, 200, .inl zI)), (a2, .inl (cy 1, 45, .inl zI)), (a3, .inl (cy 1, 270, .inl zI)), (a4, .inl (cy 1, 45, .inl zI)), (a5, .inl (cy 1, 10, .inl zI)), (a6, .inl (cy 1, 25, .inl (fwK 18)))]) C dX9_init_145 rfl (by decide) (by decide) rfl ?_
  refine an_dup C dX9_init_146 rfl ?_
  refine an_bipush C dX9_init_147 kb_18 ?_
  refine an_iconst C dX9_init_149 ki_0 ?_
  refine an_iast (i := 6) (ws' := [(h0, .inr (9, [.int (nI 0), .ref a1, .int (nI 0), .int (nI 0), .ref a2, .ref a3, .int (nI 0), .int (nI 0), .int (nI 0), .ref a4, .int (nI 0), .int (nI 0), .ref a5, .null, .null, .null])), (a1, .inl (cy 1, 200, .inl zI)), (a2, .inl (cy 1, 45, .inl zI)), (a3, .inl (cy 1, 270, .inl zI)), (a4, .inl (cy 1, 45, .inl zI)), (a5, .inl (cy 1, 10, .inl zI)), (a6, .inl (cy 1, 25, .inl (fwK 19)))]) C dX9_init_150 rfl (by decide) (by decide) rfl ?_
  refine an_dup C dX9_init_151 rfl ?_
  refine an_bipush C dX9_init_152 kb_19 ?_
  refine an_bipush C dX9_init_154 kb_6 ?_
  refine an_iast (i := 6) (ws' := [(h0, .inr (9, [.int (nI 0), .ref a1, .int (nI 0), .int (nI 0), .ref a2, .ref a3, .int (nI 0), .int (nI 0), .int (nI 0), .ref a4, .int (nI 0), .int (nI 0), .ref a5, .null, .null, .null])), (a1, .inl (cy 1, 200, .inl zI)), (a2, .inl (cy 1, 45, .inl zI)), (a3, .inl (cy 1, 270, .inl zI)), (a4, .inl (cy 1, 45, .inl zI)), (a5, .inl (cy 1, 10, .inl zI)), (a6, .inl (cy 1, 25, .inl (fwK 20)))]) C dX9_init_156 rfl (by decide) (by decide) rfl ?_
  refine an_dup C dX9_init_157 rfl ?_
  refine an_bipush C dX9_init_158 kb_20 ?_
  refine an_bipush C dX9_init_160 kb_26 ?_
  refine an_iast (i := 6) (ws' := [(h0, .inr (9, [.int (nI 0), .ref a1, .int (nI 0), .int (nI 0), .ref a2, .ref a3, .int (nI 0), .int (nI 0), .int (nI 0), .ref a4, .int (nI 0), .int (nI 0), .ref a5, .null, .null, .null])), (a1, .inl (cy 1, 200, .inl zI)), (a2, .inl (cy 1, 45, .inl zI)), (a3, .inl (cy 1, 270, .inl zI)), (a4, .inl (cy 1, 45, .inl zI)), (a5, .inl (cy 1, 10, .inl zI)), (a6, .inl (cy 1, 25, .inl (fwK 21)))]) C dX9_init_162 rfl (by decide) (by decide) rfl ?_
  refine an_dup C dX9_init_163 rfl ?_
  refine an_bipush C dX9_init_164 kb_21 ?_
  refine an_iconst C dX9_init_166 ki_0 ?_
  refine an_iast (i := 6) (ws' := [(h0, .inr (9, [.int (nI 0), .ref a1, .int (nI 0), .int (nI 0), .ref a2, .ref a3, .int (nI 0), .int (nI 0), .int (nI 0), .ref a4, .int (nI 0), .int (nI 0), .ref a5, .null, .null, .null])), (a1, .inl (cy 1, 200, .inl zI)), (a2, .inl (cy 1, 45, .inl zI)), (a3, .inl (cy 1, 270, .inl zI)), (a4, .inl (cy 1, 45, .inl zI)), (a5, .inl (cy 1, 10, .inl zI)), (a6, .inl (cy 1, 25, .inl (fwK 22)))]) C dX9_init_167 rfl (by decide) (by decide) rfl ?_
  refine an_dup C dX9_init_168 rfl ?_
  refine an_bipush C dX9_init_169 kb_22 ?_
  refine an_bipush C dX9_init_171 kb_32 ?_
  refine an_iast (i := 6) (ws' := [(h0, .inr (9, [.int (nI 0), .ref a1, .int (nI 0), .int (nI 0), .ref a2, .ref a3, .int (nI 0), .int (nI 0), .int (nI 0), .ref a4, .int (nI 0), .int (nI 0), .ref a5, .null, .null, .null])), (a1, .inl (cy 1, 200, .inl zI)), (a2, .inl (cy 1, 45, .inl zI)), (a3, .inl (cy 1, 270, .inl zI)), (a4, .inl (cy 1, 45, .inl zI)), (a5, .inl (cy 1, 10, .inl zI)), (a6, .inl (cy 1, 25, .inl (fwK 23)))]) C dX9_init_173 rfl (by decide) (by decide) rfl ?_
  refine an_dup C dX9_init_174 rfl ?_
  refine an_bipush C dX9_init_175 kb_23 ?_
  refine an_iconst C dX9_init_177 ki_1 ?_
  refine an_iast (i := 6) (ws' := [(h0, .inr (9, [.int (nI 0), .ref a1, .int (nI 0), .int (nI 0), .ref a2, .ref a3, .int (nI 0), .int (nI 0), .int (nI 0), .ref a4, .int (nI 0), .int (nI 0), .ref a5, .null, .null, .null])), (a1, .inl (cy 1, 200, .inl zI)), (a2, .inl (cy 1, 45, .inl zI)), (a3, .inl (cy 1, 270, .inl zI)), (a4, .inl (cy 1, 45, .inl zI)), (a5, .inl (cy 1, 10, .inl zI)), (a6, .inl (cy 1, 25, .inl (fwK 24)))]) C dX9_init_178 rfl (by decide) (by decide) rfl ?_
  refine an_dup C dX9_init_179 rfl ?_
  refine an_bipush C dX9_init_180 kb_24 ?_
  refine an_bipush C dX9_init_182 kb_9 ?_
  refine an_iast (i := 6) (ws' := [(h0, .inr (9, [.int (nI 0), .ref a1, .int (nI 0), .int (nI 0), .ref a2, .ref a3, .int (nI 0), .int (nI 0), .int (nI 0), .ref a4, .int (nI 0), .int (nI 0), .ref a5, .null, .null, .null])), (a1, .inl (cy 1, 200, .inl zI)), (a2, .inl (cy 1, 45, .inl zI)), (a3, .inl (cy 1, 270, .inl zI)), (a4, .inl (cy 1, 45, .inl zI)), (a5, .inl (cy 1, 10, .inl zI)), (a6, .inl (cy 1, 25, .inl (fwK 25)))]) C dX9_init_184 rfl (by decide) (by decide) rfl ?_
  refine an_putF (i := 0) (ws' := [(h0, .inr (9, [.int (nI 0), .ref a1, .int (nI 0), .int (nI 0), .ref a2, .ref a3, .int (nI 0), .int (nI 0), .int (nI 0), .ref a4, .int (nI 0), .int (nI 0), .ref a5, .ref a6, .null, .null])), (a1, .inl (cy 1, 200, .inl zI)), (a2, .inl (cy 1, 45, .inl zI)), (a3, .inl (cy 1, 270, .inl zI)), (a4, .inl (cy 1, 45, .inl zI)), (a5, .inl (cy 1, 10, .inl zI)), (a6, .inl (cy 1, 25, .inl (fwK 25)))]) C (by decide) dX9_init_185 ff_X9_25 rfl rfl rfl (Nat.le_of_ble_eq_true rfl) rfl ?_
  refine an_aload_n C dX9_init_188 (i := 0) rfl rfl ?_
  refine an_bipush C dX9_init_189 kb_8 ?_
  refine an_newa (t := 1) (len := 8) (a0 := (8, .inl zI)) C dX9_init_191 rfl (gw_at 119 (by decide +kernel) rfl) rfl (fun U cA h9 => h9) (fun _ => rfl) (by decide) (by decide) (Nat.le_of_ble_eq_true rfl) (Nat.le_of_ble_eq_true rfl) (fun a7 => ?_)
  refine an_putF (i := 0) (ws' := [(h0, .inr (9, [.int (nI 0), .ref a1, .int (nI 0), .int (nI 0), .ref a2, .ref a3, .int (nI 0), .int (nI 0), .int (nI 0), .ref a4, .int (nI 0), .int (nI 0), .ref a5, .ref a6, .ref a7, .null])), (a1, .inl (cy 1, 200, .inl zI)), (a2, .inl (cy 1, 45, .inl zI)), (a3, .inl (cy 1, 270, .inl zI)), (a4, .inl (cy 1, 45, .inl zI)), (a5, .inl (cy 1, 10, .inl zI)), (a6, .inl (cy 1, 25, .inl (fwK 25))), (a7, .inl (cy 1, 8, .inl zI))]) C (by decide) dX9_init_193 ff_X9_28 rfl rfl rfl (Nat.le_of_ble_eq_true rfl) rfl ?_
  refine an_aload_n C dX9_init_196 (i := 0) rfl rfl ?_
  refine an_sipush C dX9_init_197 ks_256 ?_
  refine an_newa (t := 1) (len := 256) (a0 := (256, .inl zI)) C dX9_init_200 rfl (gw_at 119 (by decide +kernel) rfl) rfl (fun U cA h9 => h9) (fun _ => rfl) (by decide) (by decide) (Nat.le_of_ble_eq_true rfl) (Nat.le_of_ble_eq_true rfl) (fun a8 => ?_)
  refine an_putF (i := 0) (ws' := [(h0, .inr (9, [.int (nI 0), .ref a1, .int (nI 0), .int (nI 0), .ref a2, .ref a3, .int (nI 0), .int (nI 0), .int (nI 0), .ref a4, .int (nI 0), .int (nI 0), .ref a5, .ref a6, .ref a7, .ref a8])), (a1, .inl (cy 1, 200, .inl zI)), (a2, .inl (cy 1, 45, .inl zI)), (a3, .inl (cy 1, 270, .inl zI)), (a4, .inl (cy 1, 45, .inl zI)), (a5, .inl (cy 1, 10, .inl zI)), (a6, .inl (cy 1, 25, .inl (fwK 25))), (a7, .inl (cy 1, 8, .inl zI)), (a8, .inl (cy 1, 256, .inl zI))]) C (by decide) dX9_init_202 ff_X9_31 rfl rfl rfl (Nat.le_of_ble_eq_true rfl) rfl ?_
  refine an_aload_n C dX9_init_205 (i := 0) rfl rfl ?_
  refine an_bipush C dX9_init_206 kb_20 ?_
  refine an_put (i := 0) (ws' := [(h0, .inr (9, [.int (nI 0), .ref a1, .int (nI 20), .int (nI 0), .ref a2, .ref a3, .int (nI 0), .int (nI 0), .int (nI 0), .ref a4, .int (nI 0), .int (nI 0), .ref a5, .ref a6, .ref a7, .ref a8])), (a1, .inl (cy 1, 200, .inl zI)), (a2, .inl (cy 1, 45, .inl zI)), (a3, .inl (cy 1, 270, .inl zI)), (a4, .inl (cy 1, 45, .inl zI)), (a5, .inl (cy 1, 10, .inl zI)), (a6, .inl (cy 1, 25, .inl (fwK 25))), (a7, .inl (cy 1, 8, .inl zI)), (a8, .inl (cy 1, 256, .inl zI))]) C dX9_init_208 fp_X9_34 rfl rfl rfl (Nat.le_of_ble_eq_true rfl) rfl ?_
  refine an_aload_n C dX9_init_211 (i := 0) rfl rfl ?_
  refine an_iconst C dX9_init_212 ki_5 ?_
  refine an_put (i := 0) (ws' := [(h0, .inr (9, [.int (nI 0), .ref a1, .int (nI 20), .int (nI 5), .ref a2, .ref a3, .int (nI 0), .int (nI 0), .int (nI 0), .ref a4, .int (nI 0), .int (nI 0), .ref a5, .ref a6, .ref a7, .ref a8])), (a1, .inl (cy 1, 200, .inl zI)), (a2, .inl (cy 1, 45, .inl zI)), (a3, .inl (cy 1, 270, .inl zI)), (a4, .inl (cy 1, 45, .inl zI)), (a5, .inl (cy 1, 10, .inl zI)), (a6, .inl (cy 1, 25, .inl (fwK 25))), (a7, .inl (cy 1, 8, .inl zI)), (a8, .inl (cy 1, 256, .inl zI))]) C dX9_init_213 fp_X9_38 rfl rfl rfl (Nat.le_of_ble_eq_true rfl) rfl ?_
  refine an_iconst C dX9_init_216 ki_0 ?_
  refine an_istore_n (lv' := [(0, .ref h0), (1, .int (nI 0))]) C dX9_init_217 (i := 1) rfl (Nat.le_of_ble_eq_true rfl) rfl ?_
  refine an_eq (ws' := [(h0, .inr (9, [.int (nI 0), .ref a1, .int (nI 20), .int (nI 5), .ref a2, .ref a3, .int (nI 0), .int (nI 0), .int (nI 0), .ref a4, .int (nI 0), .int (nI 0), .ref a5, .ref a6, .ref a7, .ref a8])), (a1, .inl (cy 1, 200, .inl zI)), (a2, .inl (cy 1, 45, .inl (cpG (fwK 25) zI 0))), (a3, .inl (cy 1, 270, .inl zI)), (a4, .inl (cy 1, 45, .inl zI)), (a5, .inl (cy 1, 10, .inl zI)), (a6, .inl (cy 1, 25, .inl (fwK 25))), (a7, .inl (cy 1, 8, .inl zI)), (a8, .inl (cy 1, 256, .inl zI))]) (by rw [cpG_0]) ?_
  refine ck_X9_l C ?_ 26 0 (by omega) (by omega)
  refine an_aload_n C dX9_init_242 (i := 0) rfl rfl ?_
  refine an_get (i := 0) C dX9_init_243 fl_X9_13 rfl rfl ?_
  refine an_bipush C dX9_init_246 kb_40 ?_
  refine an_iconst C dX9_init_248 ki_2 ?_
  refine an_iast (i := 2) (ws' := [(h0, .inr (9, [.int (nI 0), .ref a1, .int (nI 20), .int (nI 5), .ref a2, .ref a3, .int (nI 0), .int (nI 0), .int (nI 0), .ref a4, .int (nI 0), .int (nI 0), .ref a5, .ref a6, .ref a7, .ref a8])), (a1, .inl (cy 1, 200, .inl zI)), (a2, .inl (cy 1, 45, .inl (upd (cpG (fwK 25) zI 25) 40 (nI 2)))), (a3, .inl (cy 1, 270, .inl zI)), (a4, .inl (cy 1, 45, .inl zI)), (a5, .inl (cy 1, 10, .inl zI)), (a6, .inl (cy 1, 25, .inl (fwK 25))), (a7, .inl (cy 1, 8, .inl zI)), (a8, .inl (cy 1, 256, .inl zI))]) C dX9_init_249 rfl (by decide) (by decide) rfl ?_
  refine an_aload_n C dX9_init_250 (i := 0) rfl rfl ?_
  refine an_get (i := 0) C dX9_init_251 fl_X9_13 rfl rfl ?_
  refine an_bipush C dX9_init_254 kb_41 ?_
  refine an_bipush C dX9_init_256 kb_6 ?_
  refine an_iast (i := 2) (ws' := [(h0, .inr (9, [.int (nI 0), .ref a1, .int (nI 20), .int (nI 5), .ref a2, .ref a3, .int (nI 0), .int (nI 0), .int (nI 0), .ref a4, .int (nI 0), .int (nI 0), .ref a5, .ref a6, .ref a7, .ref a8])), (a1, .inl (cy 1, 200, .inl zI)), (a2, .inl (cy 1, 45, .inl (upd (upd (cpG (fwK 25) zI 25) 40 (nI 2)) 41 (nI 6)))), (a3, .inl (cy 1, 270, .inl zI)), (a4, .inl (cy 1, 45, .inl zI)), (a5, .inl (cy 1, 10, .inl zI)), (a6, .inl (cy 1, 25, .inl (fwK 25))), (a7, .inl (cy 1, 8, .inl zI)), (a8, .inl (cy 1, 256, .inl zI))]) C dX9_init_258 rfl (by decide) (by decide) rfl ?_
  refine an_aload_n C dX9_init_259 (i := 0) rfl rfl ?_
  refine an_get (i := 0) C dX9_init_260 fl_X9_13 rfl rfl ?_
  refine an_bipush C dX9_init_263 kb_42 ?_
  refine an_iconst C dX9_init_265 ki_2 ?_
  refine an_iast (i := 2) (ws' := [(h0, .inr (9, [.int (nI 0), .ref a1, .int (nI 20), .int (nI 5), .ref a2, .ref a3, .int (nI 0), .int (nI 0), .int (nI 0), .ref a4, .int (nI 0), .int (nI 0), .ref a5, .ref a6, .ref a7, .ref a8])), (a1, .inl (cy 1, 200, .inl zI)), (a2, .inl (cy 1, 45, .inl (upd (upd (upd (cpG (fwK 25) zI 25) 40 (nI 2)) 41 (nI 6)) 42 (nI 2)))), (a3, .inl (cy 1, 270, .inl zI)), (a4, .inl (cy 1, 45, .inl zI)), (a5, .inl (cy 1, 10, .inl zI)), (a6, .inl (cy 1, 25, .inl (fwK 25))), (a7, .inl (cy 1, 8, .inl zI)), (a8, .inl (cy 1, 256, .inl zI))]) C dX9_init_266 rfl (by decide) (by decide) rfl ?_
  refine an_eq (ws' := wl 9 (fun k => [h0, a1, a2, a3, a4, a5, a6, a7, a8].getD k 0) (mdC cy (fun k => [h0, a1, a2, a3, a4, a5, a6, a7, a8].getD k 0) 0 20 5 0 0 0 0 0 (fun _ => 0) h0R zI zI zI (fwK 25) zI zI)) rfl ?_
  refine an_wI (fun hI => ?_)
  exact an_vret C hr dX9_init_267 ⟨_, rfl, hI, rfl⟩
