-- further rows: Math, arraycopy, longs, switches
def absI (x : Int32) : Int32 := if 0 ≤ x then x else 0 - x
def minI (x y : Int32) : Int32 := if y < x then y else x
/-- the static facts of a call of Math.abs, Math.min, System.arraycopy -/
def CA (own : String) (idx : Nat) : Prop := Cond.methodLink own idx Lib.Math.abs.name ∈ gw_tbl ∧ Cond.static Lib.Math.abs.name ∈ gw_tbl ∧ Cond.initialized "java/lang/Math" ∈ gw_tbl ∧ Cond.code Lib.Math.abs.name Lib.Math.abs.code 1 (some .int) ∈ gw_tbl
def CM (own : String) (idx : Nat) : Prop := Cond.methodLink own idx Lib.Math.min.name ∈ gw_tbl ∧ Cond.static Lib.Math.min.name ∈ gw_tbl ∧ Cond.initialized "java/lang/Math" ∈ gw_tbl ∧ Cond.code Lib.Math.min.name Lib.Math.min.code 2 (some .int) ∈ gw_tbl
def CY (own : String) (idx : Nat) : Prop := Cond.methodLink own idx arraycopyName ∈ gw_tbl ∧ Cond.native arraycopyName ∈ gw_tbl ∧ Cond.static arraycopyName ∈ gw_tbl ∧ Cond.initialized "java/lang/System" ∈ gw_tbl
theorem ca_X8_218 : CA RX8 218 := ⟨gw_at 694 (by decide +kernel) rfl, gw_at 522 (by decide +kernel) rfl, gw_at 62 (by decide +kernel) rfl, gw_at 523 (by decide +kernel) rfl⟩
theorem ccy_X0_29 : CY RX0 29 := ⟨gw_at 369 (by decide +kernel) rfl, gw_at 331 (by decide +kernel) rfl, gw_at 330 (by decide +kernel) rfl, gw_at 60 (by decide +kernel) rfl⟩
theorem ccy_X1_34 : CY RX1 34 := ⟨gw_at 329 (by decide +kernel) rfl, gw_at 331 (by decide +kernel) rfl, gw_at 330 (by decide +kernel) rfl, gw_at 60 (by decide +kernel) rfl⟩
theorem ca_X2_84 : CA RX2 84 := ⟨gw_at 683 (by decide +kernel) rfl, gw_at 522 (by decide +kernel) rfl, gw_at 62 (by decide +kernel) rfl, gw_at 523 (by decide +kernel) rfl⟩
theorem ccy_X3_29 : CY RX3 29 := ⟨gw_at 466 (by decide +kernel) rfl, gw_at 331 (by decide +kernel) rfl, gw_at 330 (by decide +kernel) rfl, gw_at 60 (by decide +kernel) rfl⟩
theorem cm9_X3_35 : CM RX3 35 := ⟨gw_at 467 (by decide +kernel) rfl, gw_at 468 (by decide +kernel) rfl, gw_at 62 (by decide +kernel) rfl, gw_at 469 (by decide +kernel) rfl⟩
theorem ca_X7_66 : CA RX7 66 := ⟨gw_at 521 (by decide +kernel) rfl, gw_at 522 (by decide +kernel) rfl, gw_at 62 (by decide +kernel) rfl, gw_at 523 (by decide +kernel) rfl⟩
section ROWS2
variable {p : Program} {l : Launch} {e : Env} {R : Room} {s : State} {m : MethodId} {args : Array Value} {below : List Frame} {meth : Method} {c : Code} {Q : State → Prop}
variable {cc : ByteArray} {nL : Nat} {own : String} {D : va_G} {cy : Nat → ClassId} {z : Nat → Nat} {N : Nat} {q : Nat → Nat}
variable {f : wS} {lv : List (Nat × Value)} {pc : Nat} {st : List Value}
theorem aw_abs (C : Cx p s m args meth c cc nL own D cy z N q) {idx : Nat} {x : Int32} (hd : decode cc pc = .ok (.invokestatic idx, 3)) (hc : CA own idx) (h1 : 1 ≤ R.frames) (h2 : 32 ≤ R.locals) (hw : (st.map fun v => v.category).sum ≤ 8) (K : AW p l e R s m args below meth c D N q nL Q f lv (pc + 3) (.int (absI x) :: st)) : AW p l e R s m args below meth c D N q nL Q f lv pc (.int x :: st) := fun H locs ls hP hS hv => va_mabs C.1 C.2.1 (by rw [hv.1]; exact C.2.2.1) C.2.2.2.1 (C.2.2.2.2.1 _ hc.1) (C.2.2.2.2.1 _ hc.2.1) (C.2.2.2.2.1 _ hc.2.2.1) (C.2.2.2.2.1 _ hc.2.2.2) h1 (by omega) (Nat.zero_le _) (Nat.zero_le _) hd (K H locs ls hP hS hv)
theorem aw_min (C : Cx p s m args meth c cc nL own D cy z N q) {idx : Nat} {x y : Int32} (hd : decode cc pc = .ok (.invokestatic idx, 3)) (hc : CM own idx) (h1 : 1 ≤ R.frames) (h2 : 32 ≤ R.locals) (hw : (st.map fun v => v.category).sum ≤ 8) (K : AW p l e R s m args below meth c D N q nL Q f lv (pc + 3) (.int (minI x y) :: st)) : AW p l e R s m args below meth c D N q nL Q f lv pc (.int y :: .int x :: st) := fun H locs ls hP hS hv => va_mmin C.1 C.2.1 (by rw [hv.1]; exact C.2.2.1) C.2.2.2.1 (C.2.2.2.2.1 _ hc.1) (C.2.2.2.2.1 _ hc.2.1) (C.2.2.2.2.1 _ hc.2.2.1) (C.2.2.2.2.1 _ hc.2.2.2) h1 (by omega) (Nat.zero_le _) (Nat.zero_le _) hd (K H locs ls hP hS hv)
theorem aw_copy (C : Cx p s m args meth c cc nL own D cy z N q) {idx k0 k1 n0 n1 sp dp n : Nat} {g0 g1 : Nat → Int32} {f' : wS} (hd : decode cc pc = .ok (.invokestatic idx, 3)) (hc : CY own idx) (hk0 : k0 < N) (hf0 : f k0 = .inl (cy 1, n0, .inl g0)) (hk1 : k1 < N) (hf1 : f k1 = .inl (cy 1, n1, .inl g1)) (hs0 : sp + n ≤ n0) (hs1 : dp + n ≤ n1) (hb0 : n0 < 2147483648) (hb1 : n1 < 2147483648) (h1 : 1 ≤ R.frames) (h2 : 32 ≤ R.locals) (hw : (st.map fun v => v.category).sum ≤ 8) (hw9 : va_up f k1 (.inl (cy 1, n1, .inl (va_cpy g0 g1 sp dp n))) = f') (K : AW p l e R s m args below meth c D N q nL Q f' lv (pc + 3) st) : AW p l e R s m args below meth c D N q nL Q f lv pc (.int (nI n) :: .int (nI dp) :: .ref (q k1) :: .int (nI sp) :: .ref (q k0) :: st) := by
  intro H locs ls hP hS hv
  have he0 : (wl N q f)[k0]? = some (q k0, .inl (cy 1, n0, .inl g0)) := by rw [wl_get hk0, hf0]
  have he1 : (wl N q f)[k1]? = some (q k1, .inl (cy 1, n1, .inl g1)) := by rw [wl_get hk1, hf1]
  have c1 : (nI sp).toNatClampNeg = sp := nI_clamp (by omega)
  have c2 : (nI dp).toNatClampNeg = dp := nI_clamp (by omega)
  have c3 : (nI n).toNatClampNeg = n := nI_clamp (by omega)
  refine va_copyi C.1 C.2.1 (by rw [hv.1]; exact C.2.2.1) C.2.2.2.1 (C.2.2.2.2.1 _ hc.1) (C.2.2.2.2.1 _ hc.2.1) (C.2.2.2.2.1 _ hc.2.2.1) (C.2.2.2.2.1 _ hc.2.2.2) C.2.2.2.2.2.1.1 hP (wl_D C.2.2.2.2.2.2.1) hS k0 k1 1 1 he0 he1 (ty := .int) rfl rfl rfl (nI_pos (by omega)) (nI_pos (by omega)) (nI_pos (by omega)) (by rw [c1, c3]; exact hs0) (by rw [c2, c3]; exact hs1) (fun i _ => rfl) h1 (Nat.le_trans (Nat.add_le_add_right hw _) (Nat.le_trans (Nat.le_of_ble_eq_true rfl) h2)) hd (fun H1 locs1 hP1 _ hS1 => ?_)
  rw [wl_set, c1, c2, c3, hw9] at hP1
  exact K H1 locs1 ls hP1 hS1 hv
theorem aw_copyz (C : Cx p s m args meth c cc nL own D cy z N q) {idx j k1 n1 sp dp n : Nat} {g1 : Nat → Int32} {f' : wS} (hd : decode cc pc = .ok (.invokestatic idx, 3)) (hc : CY own idx) (hj : j < 4) (hk1 : k1 < N) (hf1 : f k1 = .inl (cy 1, n1, .inl g1)) (hs0 : sp + n ≤ zL j) (hs1 : dp + n ≤ n1) (hb0 : zL j < 2147483648) (hb1 : n1 < 2147483648) (h1 : 1 ≤ R.frames) (h2 : 32 ≤ R.locals) (hw : (st.map fun v => v.category).sum ≤ 8) (hw9 : va_up f k1 (.inl (cy 1, n1, .inl (va_cpy (zF j) g1 sp dp n))) = f') (K : AW p l e R s m args below meth c D N q nL Q f' lv (pc + 3) st) : AW p l e R s m args below meth c D N q nL Q f lv pc (.int (nI n) :: .int (nI dp) :: .ref (q k1) :: .int (nI sp) :: .ref (z j) :: st) := by
  intro H locs ls hP hS hv T hT X
  have he1 : (wl N q f)[k1]? = some (q k1, .inl (cy 1, n1, .inl g1)) := by rw [wl_get hk1, hf1]
  have t1 : (nI sp).toInt = sp := nI_toInt (by omega)
  have t2 : (nI dp).toInt = dp := nI_toInt (by omega)
  have t3 : (nI n).toInt = n := nI_toInt (by omega)
  have c1 : (nI sp).toNatClampNeg = sp := nI_clamp (by omega)
  have c2 : (nI dp).toNatClampNeg = dp := nI_clamp (by omega)
  have c3 : (nI n).toNatClampNeg = n := nI_clamp (by omega)
  obtain ⟨src, s1, ⟨s2, ka, s3, cm, s4⟩, s5, s6, -, s7, s8⟩ := (C.2.2.2.2.2.1.2.1 j hj).2
  have hsrc : H[z j]? = some src := (hS.2.1 _ (Array.getElem?_eq_some_iff.mp s1).1 s8).trans s1
  have hdst : H[q k1]? = some (vp_cell (cy 1) (n1, .inl g1)) := hP k1 _ he1
  obtain ⟨-, kb, d1, dm, d2⟩ := (C.2.2.2.2.2.1.1.2 1 _ rfl).1 n1 (fun i => .int (g1 i))
  obtain ⟨vm, X2, go⟩ := X.arraycopy C.1 C.2.2.2.1 (C.2.2.2.2.1 _ hc.1) (C.2.2.2.2.1 _ hc.2.1) (C.2.2.2.2.1 _ hc.2.2.1) (C.2.2.2.2.1 _ hc.2.2.2) (src := z j) (dst := q k1) (cs := src) (cd := vp_cell (cy 1) (n1, .inl g1)) (srcPos := nI sp) (destPos := nI dp) (n := nI n) (by rw [hT]; exact hsrc) (by rw [hT]; exact hdst) s2 (fun _ h => by cases h) s5 (fun h => by cases h) s3 d1 s4 d2 (by simp [refKind]) (nI_pos (by omega)) (nI_pos (by omega)) (nI_pos (by omega)) (by rw [t1, t3]; omega) (by rw [t2, t3]; show ¬ _ > ((arrV (cy 1) n1 (fun i => .int (g1 i))).slots.size : Int); rw [arrV_size]; omega)
    (fun _ _ i hi => by
      rw [c3] at hi
      have e9 : src.slots.getD ((nI sp).toNatClampNeg + i) .null = .int (zF j (sp + i)) := by rw [c1, Array.getD_eq_getD_getElem?, s7 _ (by omega)]; rfl
      rw [e9]
      exact ⟨rfl, trivial⟩) (g := F0 m pc ls (.int (nI n) :: .int (nI dp) :: .ref (q k1) :: .int (nI sp) :: .ref (z j) :: st)) rfl (by rw [hv.1]; exact C.2.2.1.symm) (rest := st) rfl (by rw [C.2.1]; exact hd) h1 (by show 2 * 0 + _ + _ ≤ _; rw [Nat.mul_zero, Nat.zero_add]; exact Nat.le_trans (Nat.add_le_add_right hw _) (Nat.le_trans (Nat.le_of_ble_eq_true rfl) h2))
  have ec : copied src (vp_cell (cy 1) (n1, .inl g1)) (nI sp) (nI dp) (nI n) = vp_cell (cy 1) (n1, .inl (va_cpy (zF j) g1 (nI sp).toNatClampNeg (nI dp).toNatClampNeg (nI n).toNatClampNeg)) := va_copiedX (fun v => .int v) src (cy 1) (zF j) g1 s7 (by rw [c1, c3]; exact hs0)
  rw [c1, c2, c3] at ec
  rw [ec] at X2 go
  have hin : q k1 < H.size := (Array.getElem?_eq_some_iff.mp hdst).1
  have oq : ∀ a : Nat, a ≠ q k1 → (H.setIfInBounds (q k1) (vp_cell (cy 1) (n1, .inl (va_cpy (zF j) g1 sp dp n))))[a]? = H[a]? := fun a ha => by simp [Array.getElem?_setIfInBounds, Ne.symm ha]
  have hPn := va_P.set (e := (.inl (cy 1, n1, .inl (va_cpy (zF j) g1 sp dp n)) : va_E)) hP (wl_D (sz := s.heap.size) C.2.2.2.2.2.2.1) he1 (show (H.setIfInBounds (q k1) (vp_cell (cy 1) (n1, .inl (va_cpy (zF j) g1 sp dp n))))[q k1]? = some _ by simp [Array.getElem?_setIfInBounds, hin]) oq
  rw [wl_set, hw9] at hPn
  have hA1 : wA N q s.heap.size (q k1) := Or.inl ⟨k1, hk1, rfl⟩
  obtain ⟨t, a1, b1⟩ := K _ _ ls hPn ⟨by simp; exact hS.1, fun a g1 g2 => by
      rw [oq a (fun e9 => g2 (by rw [e9]; exact hA1))]
      exact hS.2.1 a g1 g2, fun a ha => by
      rcases List.mem_append.mp ha with h | h
      · exact hS.2.2 a h
      · obtain ⟨y, -, hy⟩ := List.mem_map.mp h
        rw [← hy]
        exact hA1⟩ hv _ (by rw [← hT]; rfl) X2
  exact ⟨t, go t a1, b1⟩
theorem aw_lstore_n (C : Cx p s m args meth c cc nL own D cy z N q) {k : Fin 4} {i : Nat} {x : Int64} {lv' : List (Nat × Value)} (hd : decode cc pc = .ok (.lstore_n k, 1)) (hi : (k : Nat) = i) (hn : i + 1 < nL) (hl : (i, Value.long x) :: lv.filter (fun q => !(q.1 == i) && (!(q.1 == i + 1) && !(q.1 + 1 == i && q.2.category == 2))) = lv') (K : AW p l e R s m args below meth c D N q nL Q f lv' (pc + 1) st) : AW p l e R s m args below meth c D N q nL Q f lv pc (.long x :: st) := fun H locs ls hP hS hv => lv_lstore_n C.1 C.2.1 hd hi hv hn hl (fun ls hv => K H locs ls hP hS hv)
theorem aw_lor (C : Cx p s m args meth c cc nL own D cy z N q) {x y : Int64} (hd : decode cc pc = .ok (.lor, 1)) (K : AW p l e R s m args below meth c D N q nL Q f lv (pc + 1) (.long (x ||| y) :: st)) : AW p l e R s m args below meth c D N q nL Q f lv pc (.long y :: .long x :: st) := fun H locs ls hP hS hv => lv_lor C.1 C.2.1 hd (K H locs ls hP hS hv)
theorem aw_land (C : Cx p s m args meth c cc nL own D cy z N q) {x y : Int64} (hd : decode cc pc = .ok (.land, 1)) (K : AW p l e R s m args below meth c D N q nL Q f lv (pc + 1) (.long (x &&& y) :: st)) : AW p l e R s m args below meth c D N q nL Q f lv pc (.long y :: .long x :: st) := fun H locs ls hP hS hv => lv_land C.1 C.2.1 hd (K H locs ls hP hS hv)
theorem aw_lshl (C : Cx p s m args meth c cc nL own D cy z N q) {x v : Int64} {y : Int32} (hd : decode cc pc = .ok (.lshl, 1)) (hx : x <<< (y.toInt64 &&& 63) = v) (K : AW p l e R s m args below meth c D N q nL Q f lv (pc + 1) (.long v :: st)) : AW p l e R s m args below meth c D N q nL Q f lv pc (.int y :: .long x :: st) := fun H locs ls hP hS hv => lv_lshl C.1 C.2.1 hd hx (K H locs ls hP hS hv)
theorem aw_lushr (C : Cx p s m args meth c cc nL own D cy z N q) {x v : Int64} {y : Int32} (hd : decode cc pc = .ok (.lushr, 1)) (hx : (x.toUInt64 >>> (y.toInt64.toUInt64 &&& Int64.toUInt64 63)).toInt64 = v) (K : AW p l e R s m args below meth c D N q nL Q f lv (pc + 1) (.long v :: st)) : AW p l e R s m args below meth c D N q nL Q f lv pc (.int y :: .long x :: st) := fun H locs ls hP hS hv => lv_lushr C.1 C.2.1 hd hx (K H locs ls hP hS hv)
theorem aw_lcmp (C : Cx p s m args meth c cc nL own D cy z N q) {x y : Int64} (hd : decode cc pc = .ok (.lcmp, 1)) (K : AW p l e R s m args below meth c D N q nL Q f lv (pc + 1) (.int (lg_cmp x y) :: st)) : AW p l e R s m args below meth c D N q nL Q f lv pc (.long y :: .long x :: st) := fun H locs ls hP hS hv => W.lcmp C.1 C.2.1 hd (K H locs ls hP hS hv)
theorem aw_ldcw (C : Cx p s m args meth c cc nL own D cy z N q) {index : Nat} {v : Int32} (hd : decode cc pc = .ok (.ldc_w index, 3)) (hw : Cond.constant own index v ∈ gw_tbl) (K : AW p l e R s m args below meth c D N q nL Q f lv (pc + 3) (.int v :: st)) : AW p l e R s m args below meth c D N q nL Q f lv pc st := fun H locs ls hP hS hv => lv_ldcw C.1 C.2.1 C.2.2.2.1 (C.2.2.2.2.1 _ hw) hd (K H locs ls hP hS hv)
theorem aw_lsw (C : Cx p s m args meth c cc nL own D cy z N q) {dflt : Int} {ps : Array (Int × Int)} {len : Nat} {x : Int32} {off : Int} {tgt : Nat} (hd : decode cc pc = .ok (.lookupswitch dflt ps, len)) (hp : (ps.toList.zip (ps.toList.drop 1)).all (fun (a, next) => a.1 < next.1) = true) (ho : Op.lookupswitch.offset ps.toList dflt x.toInt = off) (ht : (pc : Int) + off = (tgt : Int)) (K : AW p l e R s m args below meth c D N q nL Q f lv tgt st) : AW p l e R s m args below meth c D N q nL Q f lv pc (.int x :: st) := fun H locs ls hP hS hv => lv_lookup C.1 C.2.1 hd hp ho ht (K H locs ls hP hS hv)
theorem aw_aret (C : Cx p s m args meth c cc nL own D cy z N q) {post : Option Value → wS → Prop} {a : Nat} {rt : FieldType} (hr : meth.sig.returnType = some (.array rt)) (hd : decode cc pc = .ok (.areturn, 1)) (hp : post (some (.ref a)) f) : AW p l e R s m args below meth c D N q nL (MQ below (Qg D N q post (wA N q s.heap.size)) args s 0 0 (wA N q s.heap.size)) f lv pc [.ref a] := fun H locs ls hP hS hv => W.aret C.1 C.2.1 hr (Or.inr ⟨_, rfl⟩) (Or.inr ⟨_, rfl⟩) (fun t ht hW => ⟨⟨_, f, rfl, hp, by rw [ht]; exact hP⟩, hS.F ht⟩) hS.2.2 hd C.2.2.2.2.2.2.2
end ROWS2
