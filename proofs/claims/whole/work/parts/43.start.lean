-- what the Statement gives at the start
def nrC9 : Cond := Jvm.Cond.and given_1 narrow_1
set_option maxRecDepth 100000 in
theorem nz_0 : (flatC nrC9)[22]? = some (Cond.arrayOf (Term.static "BondedWires" "LEAST_NUMBER" "[I") .int) ∧ (flatC nrC9)[23]? = some (Cond.eq (.length (Term.static "BondedWires" "LEAST_NUMBER" "[I")) (.int (Int32.ofNat 5))) ∧ ∀ i, i < 5 → (flatC nrC9)[24 + i]? = some (Cond.eq (.elem (Term.static "BondedWires" "LEAST_NUMBER" "[I") (.int (Int32.ofNat i))) (.int (zF 0 i))) := ⟨by decide +kernel, by decide +kernel, by decide +kernel⟩
set_option maxRecDepth 100000 in
theorem nz_1 : (flatC nrC9)[30]? = some (Cond.arrayOf (Term.static "BondedWires" "MOST_NUMBER" "[I") .int) ∧ (flatC nrC9)[31]? = some (Cond.eq (.length (Term.static "BondedWires" "MOST_NUMBER" "[I")) (.int (Int32.ofNat 5))) ∧ ∀ i, i < 5 → (flatC nrC9)[32 + i]? = some (Cond.eq (.elem (Term.static "BondedWires" "MOST_NUMBER" "[I") (.int (Int32.ofNat i))) (.int (zF 1 i))) := ⟨by decide +kernel, by decide +kernel, by decide +kernel⟩
set_option maxRecDepth 100000 in
theorem nz_2 : (flatC nrC9)[16]? = some (Cond.arrayOf (Term.static "BondedWires" "MOST_LIMIT" "[I") .int) ∧ (flatC nrC9)[17]? = some (Cond.eq (.length (Term.static "BondedWires" "MOST_LIMIT" "[I")) (.int (Int32.ofNat 3))) ∧ ∀ i, i < 3 → (flatC nrC9)[18 + i]? = some (Cond.eq (.elem (Term.static "BondedWires" "MOST_LIMIT" "[I") (.int (Int32.ofNat i))) (.int (zF 2 i))) := ⟨by decide +kernel, by decide +kernel, by decide +kernel⟩
set_option maxRecDepth 100000 in
theorem nz_3 : (flatC nrC9)[10]? = some (Cond.arrayOf (Term.static "BondedWires" "USUAL_LIMIT" "[I") .int) ∧ (flatC nrC9)[11]? = some (Cond.eq (.length (Term.static "BondedWires" "USUAL_LIMIT" "[I")) (.int (Int32.ofNat 3))) ∧ ∀ i, i < 3 → (flatC nrC9)[12 + i]? = some (Cond.eq (.elem (Term.static "BondedWires" "USUAL_LIMIT" "[I") (.int (Int32.ofNat i))) (.int (zF 3 i))) := ⟨by decide +kernel, by decide +kernel, by decide +kernel⟩
set_option maxRecDepth 100000 in
theorem ns_e : ∀ i, i < 80 → (flatC nrC9)[41 + i]? = some (Cond.eq (.elem (Term.field (Term.string "BondedWires" 69) "java/lang/String" "value" "[B") (.int (Int32.ofNat i))) (.int (fTx.getD i 0))) := by decide +kernel
set_option maxRecDepth 100000 in
theorem ns_o : (flatC nrC9)[37]? = some (Cond.exactly (Term.string "BondedWires" 69) "java/lang/String") ∧ (flatC nrC9)[38]? = some (Cond.eq (.field (Term.string "BondedWires" 69) "java/lang/String" "coder" "B") (.int 0)) ∧ (flatC nrC9)[39]? = some (Cond.arrayOf (Term.field (Term.string "BondedWires" 69) "java/lang/String" "value" "[B") .byte) ∧ (flatC nrC9)[40]? = some (Cond.eq (.length (Term.field (Term.string "BondedWires" 69) "java/lang/String" "value" "[B")) (.int (Int32.ofNat 80))) ∧ (flatC nrC9)[4]? = some (Cond.eq (.static "java/lang/String" "COMPACT_STRINGS" "Z") (.int 1)) ∧ (flatC nrC9)[5]? = some (Cond.isRef (.static "jdk/internal/util/Preconditions" "SIOOBE_FORMATTER" "Ljava/util/function/BiFunction;")) := ⟨by decide +kernel, by decide +kernel, by decide +kernel, by decide +kernel, by decide +kernel, by decide +kernel⟩
section START
variable {s : State} {args : Array Value}
theorem st_cls (hgw : ∀ w ∈ gw_tbl, w.before args s = true) : ∃ D : va_G, ∀ (k : Nat) (q : vw_C), vwCl[k]? = some q → u_Kn s q.1 q.2.1 q.2.2 (D.1 k) (D.2 k) := by
  have h0 : ∀ k : Nat, ∃ x : ClassId × (Nat → Nat), ∀ q : vw_C, vwCl[k]? = some q → u_Kn s q.1 q.2.1 q.2.2 x.1 x.2 := by
    intro k
    match k with
    | 0 =>
      obtain ⟨c, iS, h⟩ := u_known (C := RX0) (T := TX0) (N := 3) (n := 3) hgw uw_X0 (hgw (.instantiable RX0 3) (gw_at 121 (by decide +kernel) rfl))
      exact ⟨(c, iS), fun q hq => by cases hq; exact h⟩
    | 1 =>
      obtain ⟨c, iS, h⟩ := u_known (C := RX1) (T := TX1) (N := 6) (n := 6) hgw uw_X1 (hgw (.instantiable RX1 6) (gw_at 89 (by decide +kernel) rfl))
      exact ⟨(c, iS), fun q hq => by cases hq; exact h⟩
    | 2 =>
      obtain ⟨c, iS, h⟩ := u_known (C := RX2) (T := TX2) (N := 7) (n := 7) hgw uw_X2 (hgw (.instantiable RX2 7) (gw_at 210 (by decide +kernel) rfl))
      exact ⟨(c, iS), fun q hq => by cases hq; exact h⟩
    | 3 =>
      obtain ⟨c, iS, h⟩ := u_known (C := RX3) (T := TX3) (N := 3) (n := 3) hgw uw_X3 (hgw (.instantiable RX3 3) (gw_at 146 (by decide +kernel) rfl))
      exact ⟨(c, iS), fun q hq => by cases hq; exact h⟩
    | 4 =>
      obtain ⟨c, iS, h⟩ := u_known (C := RX4) (T := TX4) (N := 4) (n := 4) hgw uw_X4 (hgw (.instantiable RX4 4) (gw_at 191 (by decide +kernel) rfl))
      exact ⟨(c, iS), fun q hq => by cases hq; exact h⟩
    | 5 =>
      obtain ⟨c, iS, h⟩ := u_known (C := RX5) (T := TX5) (N := 6) (n := 6) hgw uw_X5 (hgw (.instantiable RX5 6) (gw_at 241 (by decide +kernel) rfl))
      exact ⟨(c, iS), fun q hq => by cases hq; exact h⟩
    | 6 =>
      obtain ⟨c, iS, h⟩ := u_known (C := RX6) (T := TX6) (N := 2) (n := 2) hgw uw_X6 (hgw (.instantiable RX6 2) (gw_at 73 (by decide +kernel) rfl))
      exact ⟨(c, iS), fun q hq => by cases hq; exact h⟩
    | 7 =>
      obtain ⟨c, iS, h⟩ := u_known (C := RX7) (T := TX7) (N := 6) (n := 6) hgw uw_X7 (hgw (.instantiable RX7 6) (gw_at 165 (by decide +kernel) rfl))
      exact ⟨(c, iS), fun q hq => by cases hq; exact h⟩
    | 8 =>
      obtain ⟨c, iS, h⟩ := u_known (C := RX8) (T := TX8) (N := 8) (n := 8) hgw uw_X8 (hgw (.instantiable RX8 8) (gw_at 65 (by decide +kernel) rfl))
      exact ⟨(c, iS), fun q hq => by cases hq; exact h⟩
    | 9 =>
      obtain ⟨c, iS, h⟩ := u_known (C := RX9) (T := TX9) (N := 16) (n := 16) hgw uw_X9 (hgw (.instantiable RX9 16) (gw_at 767 (by decide +kernel) rfl))
      exact ⟨(c, iS), fun q hq => by cases hq; exact h⟩
    | k + 10 => exact ⟨(0, fun _ => 0), fun q hq => by simp [vwCl] at hq⟩
  obtain ⟨f, hf⟩ := Classical.axiomOfChoice h0
  exact ⟨(fun k => (f k).1, fun k => (f k).2), fun k q hq => hf k q hq⟩
theorem st_ary (hgw : ∀ w ∈ gw_tbl, w.before args s = true) (hov : (Cond.arrayOver (.array .int)).before args s = true) : ∃ cy : Nat → ClassId, ∀ (k : Nat) (q : ClassId × FieldType), (tyL cy)[k]? = some q → ArrOfT s q.1 q.2 ∧ va_RA s q.1 q.2 := by
  obtain ⟨c0, k0, m0, a0, b0, d0⟩ := Cond.arrayClass_spec (hgw (.arrayClass .char) (gw_at 87 (by decide +kernel) rfl))
  obtain ⟨c1, k1, m1, a1, b1, d1⟩ := Cond.arrayClass_spec (hgw (.arrayClass .int) (gw_at 119 (by decide +kernel) rfl))
  obtain ⟨c2, k2, m2, a2, b2, d2⟩ := Cond.arrayClass_spec (hgw (.arrayClass .long) (gw_at 239 (by decide +kernel) rfl))
  obtain ⟨c3, k3, m3, a3, b3, d3⟩ := Cond.arrayClass_spec (hgw (.arrayClass .boolean) (gw_at 265 (by decide +kernel) rfl))
  obtain ⟨m4, c4, k4, -, -, b4, d4, a4⟩ := arrayOverA_spec hov
  refine ⟨fun i => match i with | 0 => c0 | 1 => c1 | 2 => c2 | 3 => c3 | _ => c4, fun k q hk => ?_⟩
  match k, hk with
  | 0, hk => cases hk; exact ⟨fun n z => ⟨fun k h => (by cases h), k0, b0, m0, d0⟩, a0⟩
  | 1, hk => cases hk; exact ⟨fun n z => ⟨fun k h => (by cases h), k1, b1, m1, d1⟩, a1⟩
  | 2, hk => cases hk; exact ⟨fun n z => ⟨fun k h => (by cases h), k2, b2, m2, d2⟩, a2⟩
  | 3, hk => cases hk; exact ⟨fun n z => ⟨fun k h => (by cases h), k3, b3, m3, d3⟩, a3⟩
  | 4, hk => cases hk; exact ⟨fun n z => ⟨fun k h => (by cases h), k4, b4, m4, d4⟩, a4⟩
  | k + 5, hk => simp [tyL] at hk
theorem st_out : ∀ a : Nat, a < s.heap.size → ¬ (fun a => s.heap.size ≤ a) a := fun a h g => absurd h (Nat.not_lt.mpr g)
theorem st_stat (hts : ∀ w ∈ lw_tbl, w.before args s = true) (hfl : ∀ w ∈ flatC nrC9, w.before args s = true) : ∃ z : Nat → Nat, wZ z (fun a => s.heap.size ≤ a) s s.heap := by
  have hini : (Cond.initialized "BondedWires").before args s = true := hts _ (List.mem_of_getElem? (i := 47) (by decide +kernel))
  obtain ⟨z0, e0, t0⟩ := va_Tof (tm := .static "BondedWires" "LEAST_NUMBER" "[I") (ty := .int) (N := 5) (f := fun i => .int (zF 0 i)) (A := fun a => s.heap.size ≤ a) (by decide) (hfl _ (List.mem_of_getElem? nz_0.1)) (va_eqt (hfl _ (List.mem_of_getElem? nz_0.2.1))) (fun i hi => va_eqt (hfl _ (List.mem_of_getElem? (nz_0.2.2 i hi)))) st_out
  have s0 := va_Zof (A := fun a => s.heap.size ≤ a) (hts (.laysStatic "BondedWires" "LEAST_NUMBER" "[I") (List.mem_of_getElem? (i := 362) (by decide +kernel))) hini e0 st_out
  obtain ⟨z1, e1, t1⟩ := va_Tof (tm := .static "BondedWires" "MOST_NUMBER" "[I") (ty := .int) (N := 5) (f := fun i => .int (zF 1 i)) (A := fun a => s.heap.size ≤ a) (by decide) (hfl _ (List.mem_of_getElem? nz_1.1)) (va_eqt (hfl _ (List.mem_of_getElem? nz_1.2.1))) (fun i hi => va_eqt (hfl _ (List.mem_of_getElem? (nz_1.2.2 i hi)))) st_out
  have s1 := va_Zof (A := fun a => s.heap.size ≤ a) (hts (.laysStatic "BondedWires" "MOST_NUMBER" "[I") (List.mem_of_getElem? (i := 364) (by decide +kernel))) hini e1 st_out
  obtain ⟨z2, e2, t2⟩ := va_Tof (tm := .static "BondedWires" "MOST_LIMIT" "[I") (ty := .int) (N := 3) (f := fun i => .int (zF 2 i)) (A := fun a => s.heap.size ≤ a) (by decide) (hfl _ (List.mem_of_getElem? nz_2.1)) (va_eqt (hfl _ (List.mem_of_getElem? nz_2.2.1))) (fun i hi => va_eqt (hfl _ (List.mem_of_getElem? (nz_2.2.2 i hi)))) st_out
  have s2 := va_Zof (A := fun a => s.heap.size ≤ a) (hts (.laysStatic "BondedWires" "MOST_LIMIT" "[I") (List.mem_of_getElem? (i := 356) (by decide +kernel))) hini e2 st_out
  obtain ⟨z3, e3, t3⟩ := va_Tof (tm := .static "BondedWires" "USUAL_LIMIT" "[I") (ty := .int) (N := 3) (f := fun i => .int (zF 3 i)) (A := fun a => s.heap.size ≤ a) (by decide) (hfl _ (List.mem_of_getElem? nz_3.1)) (va_eqt (hfl _ (List.mem_of_getElem? nz_3.2.1))) (fun i hi => va_eqt (hfl _ (List.mem_of_getElem? (nz_3.2.2 i hi)))) st_out
  have s3 := va_Zof (A := fun a => s.heap.size ≤ a) (hts (.laysStatic "BondedWires" "USUAL_LIMIT" "[I") (List.mem_of_getElem? (i := 328) (by decide +kernel))) hini e3 st_out
  refine ⟨fun j => match j with | 0 => z0 | 1 => z1 | 2 => z2 | _ => z3, fun j hj => ?_⟩
  match j, hj with
  | 0, _ => exact ⟨s0, t0⟩
  | 1, _ => exact ⟨s1, t1⟩
  | 2, _ => exact ⟨s2, t2⟩
  | 3, _ => exact ⟨s3, t3⟩
theorem st_str (hts : ∀ w ∈ lw_tbl, w.before args s = true) (hfl : ∀ w ∈ flatC nrC9, w.before args s = true) : ∃ (sA sV : Nat) (v : Value), (v = .null ∨ ∃ a, v = .ref a) ∧ Es sA sV v (fun a => s.heap.size ≤ a) s s.heap ∧ vk_R "BondedWires" 69 fTS sA s := by
  have o1 := ns_o
  have h1 : ∀ i : Nat, i < 1 → [80].getD i 0 < 2 ^ 31 := fun i hi => by
    obtain rfl : i = 0 := by omega
    decide
  have h4 : ∀ i : Nat, i < 1 → (Cond.eq (.length (Term.field (Term.string "BondedWires" 69) "java/lang/String" "value" "[B")) (.int (Int32.ofNat ([80].getD i 0)))).before args s = true := fun i hi => by
    obtain rfl : i = 0 := by omega
    exact hfl _ (List.mem_of_getElem? o1.2.2.2.1)
  have h5 : ∀ i : Nat, i < 1 → ∀ j : Nat, j < [80].getD i 0 → (Cond.eq (.elem (Term.field (Term.string "BondedWires" 69) "java/lang/String" "value" "[B") (.int (Int32.ofNat j))) (.int (([fTx].getD i []).getD j 0))).before args s = true := fun i hi j hj => by
    obtain rfl : i = 0 := by omega
    exact hfl _ (List.mem_of_getElem? (ns_e j hj))
  obtain ⟨adK, adV, hS, hE⟩ := vk_Sof (args := args) (s := s) (N := 1) (tm := fun _ => (Term.string "BondedWires" 69)) (len := [80]) (byt := [fTx]) (A := fun a => s.heap.size ≤ a) h1 (fun i hi => hfl _ (List.mem_of_getElem? o1.1)) (fun i hi => hfl _ (List.mem_of_getElem? o1.2.1)) (fun i hi => hfl _ (List.mem_of_getElem? o1.2.2.1)) h4 h5 (fun i j hi hj h => absurd (show i = j by omega) h) st_out
  have hc := va_Zof (A := fun a => s.heap.size ≤ a) (hts (.laysStatic "java/lang/String" "COMPACT_STRINGS" "Z") (List.mem_of_getElem? (i := 276) (by decide +kernel))) (hts (.initialized "java/lang/String") (List.mem_of_getElem? (i := 56) (by decide +kernel))) (va_eqt (hfl _ (List.mem_of_getElem? o1.2.2.2.2.1))) st_out
  have hf := va_Zqof (A := fun a => s.heap.size ≤ a) (hts (.laysStatic "jdk/internal/util/Preconditions" "SIOOBE_FORMATTER" "Ljava/util/function/BiFunction;") (List.mem_of_getElem? (i := 292) (by decide +kernel))) (hts (.initialized "jdk/internal/util/Preconditions") (List.mem_of_getElem? (i := 58) (by decide +kernel))) (hfl _ (List.mem_of_getElem? o1.2.2.2.2.2)) st_out
  have hS2 : vk_S 1 [80] [fTx] (fun _ => adK 0) (fun _ => adV 0) (fun a => s.heap.size ≤ a) s s.heap := ⟨fun i hi => by
    obtain rfl : i = 0 := by omega
    exact hS.1 0 hi, fun i j hi hj _ => by omega⟩
  have hR : vk_R "BondedWires" 69 fTS (adK 0) s := vk_R.of (hts (.stringRef "BondedWires" 69 fTS) (List.mem_of_getElem? (i := 266) (by decide +kernel))) (hE 0 (by decide))
  rcases hf with hf | ⟨t, hf⟩
  · exact ⟨adK 0, adV 0, .null, Or.inl rfl, ⟨hS2, hc, hf⟩, hR⟩
  · exact ⟨adK 0, adV 0, .ref t, Or.inr ⟨t, rfl⟩, ⟨hS2, hc, hf⟩, hR⟩
theorem st_env (hts : ∀ w ∈ lw_tbl, w.before args s = true) (hgv : (Jvm.Cond.and given_1 narrow_1).before args s = true) : ∃ (D : va_G) (cy : Nat → ClassId) (z : Nat → Nat) (sA sV : Nat) (v : Value), (v = .null ∨ ∃ a, v = .ref a) ∧ En D cy z sA sV v (fun a => s.heap.size ≤ a) s s.heap := by
  have hfl : ∀ w ∈ flatC nrC9, w.before args s = true := flat_of_before nrC9 hgv
  have hgw : ∀ w ∈ gw_tbl, w.before args s = true := fun w hw => hts w (List.mem_filter.mp hw).1
  have hov : (Cond.arrayOver (.array .int)).before args s = true := hts _ (List.mem_of_getElem? (i := 152) (by decide +kernel))
  obtain ⟨D, hD⟩ := st_cls hgw
  obtain ⟨cy, hc⟩ := st_ary hgw hov
  obtain ⟨z, hz⟩ := st_stat hts hfl
  obtain ⟨sA, sV, v, hv, hE, hR⟩ := st_str hts hfl
  refine ⟨D, cy, z, sA, sV, v, hv, ⟨⟨hD, hc⟩, hz, fun w hw => ?_⟩, hE, over_moved (Vm.Alike.refl s.vm) hov, hR, fun w hw => ?_⟩
  · have h1 := hts w (List.mem_filter.mp hw).1
    have h2 := (List.mem_filter.mp hw).2
    cases w <;> first | exact va_Nw.of rfl h1 | cases h2
  · have h1 := hts w (List.mem_filter.mp hw).1
    have h2 := (List.mem_filter.mp hw).2
    cases w <;> first | exact va_Nw.of rfl h1 | cases h2
end START
