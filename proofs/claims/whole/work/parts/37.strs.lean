-- the text that a new object lays: its String, as the launch has it
def fTx : List Int32 := [115, 50, 48, 59, 103, 50, 59, 104, 54, 59, 116, 50, 59, 119, 49, 48, 44, 48, 44, 56, 44, 49, 44, 49, 50, 59, 119, 49, 52, 44, 48, 44, 49, 54, 44, 49, 44, 49, 50, 59, 119, 49, 56, 44, 49, 44, 50, 52, 44, 50, 44, 49, 54, 59, 119, 50, 50, 44, 50, 44, 50, 48, 44, 48, 44, 54, 59, 119, 50, 54, 44, 48, 44, 51, 50, 44, 49, 44, 57, 59]
def fTn : List Nat := [115, 50, 48, 59, 103, 50, 59, 104, 54, 59, 116, 50, 59, 119, 49, 48, 44, 48, 44, 56, 44, 49, 44, 49, 50, 59, 119, 49, 52, 44, 48, 44, 49, 54, 44, 49, 44, 49, 50, 59, 119, 49, 56, 44, 49, 44, 50, 52, 44, 50, 44, 49, 54, 59, 119, 50, 50, 44, 50, 44, 50, 48, 44, 48, 44, 54, 59, 119, 50, 54, 44, 48, 44, 51, 50, 44, 49, 44, 57, 59]
theorem fT_n : ∀ j, j < 80 → fTx.getD j 0 = nI (fTn.getD j 0) ∧ fTn.getD j 0 ≤ 126 ∧ 32 ≤ fTn.getD j 0 := by decide +kernel
def Es (sA sV : Nat) (v : Value) (A : Nat → Prop) (U : State) (H : Heap) : Prop := vk_S 1 [80] [fTx] (fun _ => sA) (fun _ => sV) A U H ∧ va_Z "java/lang/String" "COMPACT_STRINGS" "Z" (.int 1) A U H ∧ va_Z "jdk/internal/util/Preconditions" "SIOOBE_FORMATTER" "Ljava/util/function/BiFunction;" v A U H
theorem Es.moved {sA sV : Nat} {v : Value} {A : Nat → Prop} {u U : State} {H : Heap} (hvm : u.vm.Alike U.vm) (h : Es sA sV v A u H) : Es sA sV v A U H := ⟨h.1.moved hvm, va_Z.moved hvm h.2.1, va_Z.moved hvm h.2.2⟩
theorem Es.kept {sA sV : Nat} {v : Value} {A : Nat → Prop} {U : State} {H H1 : Heap} (h : Es sA sV v A U H) (hq : ∀ a : Nat, a < H.size → ¬ A a → H1[a]? = H[a]?) : Es sA sV v A U H1 := ⟨h.1.kept hq, h.2.1.kept hq, h.2.2.kept hq⟩
theorem Es.narrow {sA sV : Nat} {v : Value} {A B : Nat → Prop} {U : State} {H : Heap} (h : Es sA sV v A U H) (hAB : ∀ q, B q → A q) : Es sA sV v B U H := ⟨h.1.narrow hAB, h.2.1.narrow hAB, h.2.2.narrow hAB⟩
theorem Es.go {sA sV : Nat} {v : Value} {A B : Nat → Prop} {s U : State} {H : Heap} {locs : List Loc} (h : Es sA sV v A s s.heap) (hS : va_S A s.heap H locs) (hU : U.heap = H) (hW : s.WarmedH U.vm) (hAB : ∀ q, B q → A q) : Es sA sV v B U U.heap := by
  rw [hU]
  exact ((h.kept hS.2.1).moved hW.alike).narrow hAB
theorem wE.goB {D : va_G} {cy : Nat → ClassId} {z : Nat → Nat} {A B : Nat → Prop} {s U : State} {H : Heap} {locs : List Loc} (h : wE D cy z A s s.heap) (hS : va_S A s.heap H locs) (hU : U.heap = H) (hW : s.WarmedH U.vm) (hAB : ∀ q, B q → A q) : wE D cy z B U U.heap := by
  refine ⟨va_K.moved hW.alike h.1, ?_, nw_warm hW h.2.2⟩
  rw [hU]
  exact ((h.2.1.kept hS.2.1).moved hW.alike).narrow hAB
def QS (q : Nat → Nat) (r : Option Value) (sz : Nat) : Array Value → State → Outcome → State → Prop := fun _ st oc t => oc = .returned r ∧ va_F (wA 0 q sz) st t
def PS (D : va_G) (cy : Nat → ClassId) (z : Nat → Nat) (q : Nat → Nat) (sA sV : Nat) (v : Value) (sz : Nat) (av : List Value) : Array Value → State → Prop := va_Pc av (fun U => U.heap.size = sz ∧ wE D cy z (wA 0 q sz) U U.heap ∧ Es sA sV v (wA 0 q sz) U U.heap)
/-- a contract of a method that only looks at the String -/
def Cs (l : Launch) (y : MethodName) (bytes : ByteArray) (maxL : Nat) (ret : Option FieldType) (fr lo : Nat) (D : va_G) (cy : Nat → ClassId) (z : Nat → Nat) (q : Nat → Nat) (sA sV : Nat) (v : Value) (av : List Value) (r : Option Value) : Prop :=
  ∀ sz, Met l y (.code y bytes maxL ret :: gw_tbl) { frames := fr, cells := 0, slots := 0, locals := lo } (PS D cy z q sA sV v sz av) (QS q r sz) 0 0 (wA 0 q sz)
theorem PS_blind {D : va_G} {cy : Nat → ClassId} {z q : Nat → Nat} {sA sV sz : Nat} {v : Value} {av : List Value} : FrameBlind (PS D cy z q sA sV v sz av) := fun a U g mk h => by
  obtain ⟨q0, q1, qE, qS⟩ := h
  exact ⟨q0, q1, qE.calling, Es.moved (u := U) (U := U.calling g mk a) (Vm.Alike.refl U.vm) qS⟩
section STRS
variable {p : Program} {l : Launch} {e : Env} {R : Room} {s : State} {m : MethodId} {args : Array Value} {below : List Frame} {meth : Method} {c : Code} {Q : State → Prop}
variable {cc : ByteArray} {nL : Nat} {own : String} {D : va_G} {cy : Nat → ClassId} {z : Nat → Nat} {q : Nat → Nat} {sA sV : Nat} {v : Value}
variable {f : wS} {lv : List (Nat × Value)} {pc : Nat} {st : List Value}
theorem Cs.of {y : MethodName} {bytes : ByteArray} {maxL fr lo : Nat} {ret : Option FieldType} {av : List Value} {r : Option Value} (hy : plainName y.cls = true) (hcls : y.cls = own) (hlen : (lg_sl av).length ≤ maxL)
    (body : ∀ (p : Program) (e : Env) (s : State) (m : MethodId) (args : Array Value) (below : List Frame) (meth : Method) (c : Code), Cx p s m args meth c bytes maxL own D cy z 0 q → Es sA sV v (wA 0 q s.heap.size) s s.heap → meth.sig.returnType = ret → AW p l e { frames := fr, cells := 0, slots := 0, locals := lo } s m args below meth c D 0 q maxL (MQ below (QS q r s.heap.size) args s 0 0 (wA 0 q s.heap.size)) f (lv_args 0 av) 0 []) : Cs l y bytes maxL ret fr lo D cy z q sA sV v av r := by
  intro sz
  refine Met.ofW (cc := bytes) (maxL := maxL) (ret := ret) hy rfl ?_
  intro p e s m args below meth c s₁ B hml hv
  obtain ⟨rfl, hsz, hE, hX⟩ := hv
  subst hsz
  have hts := atoms_spec (ws := .code y bytes maxL ret :: gw_tbl) B.pre
  have hown : s.vm.findClass own = some m.cls := by rw [← hcls]; exact findClass_of_methodNamed B.named
  have hl := lv_entry av (n := maxL) hlen
  rw [lg_entry_eq]
  exact body p e s m _ below meth c ⟨B.exec, B.bytes, hml, hown, fun w hw => hts w (List.mem_cons_of_mem _ hw), hE, fun i j hi => absurd hi (Nat.not_lt_zero i), B.notSynchronized⟩ hX B.returns s.heap [] _ (fun k x hk => by cases hk) va_S.rf hl
theorem as_iret (C : Cx p s m args meth c cc nL own D cy z 0 q) {x : Int32} (hr : meth.sig.returnType = some .int) (hd : decode cc pc = .ok (.ireturn, 1)) : AW p l e R s m args below meth c D 0 q nL (MQ below (QS q (some (.int x)) s.heap.size) args s 0 0 (wA 0 q s.heap.size)) f lv pc [.int x] :=
  fun H locs ls hP hS hv => W.iret C.1 C.2.1 hr (fun t ht hW => ⟨rfl, hS.F ht⟩) hS.2.2 hd C.2.2.2.2.2.2.2
theorem as_zret (C : Cx p s m args meth c cc nL own D cy z 0 q) {x : Int32} {ty : FieldType} (hr : meth.sig.returnType = some ty) (hd : decode cc pc = .ok (.ireturn, 1)) (hn : narrow ty (.int x) = .int x) : AW p l e R s m args below meth c D 0 q nL (MQ below (QS q (some (.int x)) s.heap.size) args s 0 0 (wA 0 q s.heap.size)) f lv pc [.int x] :=
  fun H locs ls hP hS hv => W.zret C.1 C.2.1 hr hn (fun t ht hW => ⟨rfl, hS.F ht⟩) hS.2.2 hd C.2.2.2.2.2.2.2
theorem as_vret (C : Cx p s m args meth c cc nL own D cy z 0 q) (hr : meth.sig.returnType = none) (hd : decode cc pc = .ok (.return_, 1)) : AW p l e R s m args below meth c D 0 q nL (MQ below (QS q none s.heap.size) args s 0 0 (wA 0 q s.heap.size)) f lv pc [] :=
  fun H locs ls hP hS hv => W.vret C.1 C.2.1 hr (fun t ht hW => ⟨rfl, hS.F ht⟩) hS.2.2 hd C.2.2.2.2.2.2.2
theorem as_back {a : Array Value} {pc : Nat} {st0 rest : List Value} {r : Option Value} {H : Heap} {locs : List Loc} {ls : Array Slot} (hr : va_Run p l e R s m args below meth c H locs 0 0 0 0 (F0 m pc ls st0) rest (QS q r H.size a) (wA 0 q H.size)) (hS : va_S (wA 0 q s.heap.size) s.heap H locs) (hv : lv_has ls nL lv)
    (K : AW p l e R s m args below meth c D 0 q nL Q f lv (pc + 3) (r.toList ++ rest)) : W p l e R s m args below meth c H locs 0 0 Q (F0 m pc ls st0) := by
  intro T hT X
  obtain ⟨v, st₀, t, T', L, h0, X', hL, e1, e2, ⟨hv1, hz, hk⟩, st⟩ := hr T hT X
  cases hv1
  rw [h0] at hz hk
  have hsub : ∀ a, wA 0 q H.size a → wA 0 q s.heap.size a := fun a ha => ha.elim Or.inl (fun g => Or.inr (Nat.le_trans hS.1 g))
  obtain ⟨t2, a1, b1⟩ := K t.heap (locs ++ L) ls (fun k x hk => by cases hk) ⟨Nat.le_trans hS.1 hz, fun x h1 h2 => by rw [hk x (Nat.lt_of_lt_of_le h1 hS.1) (fun y => h2 (hsub x y))]; exact hS.2.1 x h1 h2, fun x hx => by
      rcases List.mem_append.mp hx with h | h
      · exact hS.2.2 x h
      · exact hsub _ (hL x h)⟩ hv T' e1 X'
  exact ⟨t2, st t2 a1, b1⟩
theorem as_callV (C : Cx p s m args meth c cc nL own D cy z 0 q) (hE : Es sA sV v (wA 0 q s.heap.size) s s.heap) {idx n fr lo maxL : Nat} {y : MethodName} {bytes : ByteArray} {ret : Option FieldType} {As As0 rest : List Value} {r : Option Value} (hd : decode cc pc = .ok (.invokevirtual idx, 3)) (hc : CV own idx RJ0 y bytes maxL ret n) (hM : Cs l y bytes maxL ret fr lo D cy z q sA sV v (.ref sA :: As) r) (hs : st = As0 ++ (.ref sA :: rest)) (hA : As.reverse = As0) (hn : As.length = n) (hR : fr + 1 ≤ R.frames ∧ 8 + (maxL + 11) + lo ≤ R.locals) (hw : (rest.map fun v => v.category).sum ≤ 8) (K : AW p l e R s m args below meth c D 0 q nL Q f lv (pc + 3) (r.toList ++ rest)) : AW p l e R s m args below meth c D 0 q nL Q f lv pc st :=
  fun H locs ls hP hS hv => by
  subst hA
  subst hs
  obtain ⟨⟨c1, c2, c3, c4, c5⟩, c6, c7, c8, c9⟩ := hc
  have ht := C.2.2.2.2.1
  have hini : (Cond.initialized y.cls).before args s = true := by rw [c6]; exact ht _ c4
  have hsub : ∀ a, wA 0 q H.size a → wA 0 q s.heap.size a := fun a ha => ha.elim Or.inl (fun g => Or.inr (Nat.le_trans hS.1 g))
  refine as_back (va_runV (Ts := gw_tbl) (cc := cc) (nL := nL) (own := own) (n := n) (bytes := bytes) (maxL := maxL) (ret := ret) (rm := { frames := fr, cells := 0, slots := 0, locals := lo }) (As := As) (rest := rest) (g := F0 m pc ls (As.reverse ++ (.ref sA :: rest))) ⟨C.1, C.2.1, C.2.2.1, C.2.2.2.1, ht⟩ (hM H.size) ⟨callB_of n ht (gw_code c5) rfl rfl rfl hini (ht _ c1) ⟨c7, c8, c9⟩ hR, ht _ c2, ht _ c3⟩ ⟨PS_blind, vk_recv hE.1 (i := 0) (by decide) hS, fun U hU hW => ⟨rfl, by rw [hU], C.2.2.2.2.2.1.go hS hU hW, hE.go hS hU hW hsub⟩⟩ rfl hn hv.1 rfl (lv_room hw) hd ⟨Nat.zero_le _, Nat.zero_le _⟩) hS hv K
theorem as_callS (C : Cx p s m args meth c cc nL own D cy z 0 q) (hE : Es sA sV v (wA 0 q s.heap.size) s s.heap) {idx n fr lo maxL : Nat} {y : MethodName} {bytes : ByteArray} {ret : Option FieldType} {As As0 rest : List Value} {r : Option Value} (hd : decode cc pc = .ok (.invokestatic idx, 3)) (hc : CS own idx y bytes maxL ret n) (hM : Cs l y bytes maxL ret fr lo D cy z q sA sV v As r) (hs : st = As0 ++ rest) (hA : As.reverse = As0) (hn : As.length = n) (hR : fr + 1 ≤ R.frames ∧ 8 + (maxL + 11) + lo ≤ R.locals) (hw : (rest.map fun v => v.category).sum ≤ 8) (K : AW p l e R s m args below meth c D 0 q nL Q f lv (pc + 3) (r.toList ++ rest)) : AW p l e R s m args below meth c D 0 q nL Q f lv pc st :=
  fun H locs ls hP hS hv => by
  subst hA
  subst hs
  obtain ⟨⟨c1, c2, c4, c5⟩, c7, c8, c9⟩ := hc
  have ht := C.2.2.2.2.1
  have hsub : ∀ a, wA 0 q H.size a → wA 0 q s.heap.size a := fun a ha => ha.elim Or.inl (fun g => Or.inr (Nat.le_trans hS.1 g))
  refine as_back (va_runS (Ts := gw_tbl) (cc := cc) (nL := nL) (own := own) (n := n) (bytes := bytes) (maxL := maxL) (ret := ret) (rm := { frames := fr, cells := 0, slots := 0, locals := lo }) (As := As) (rest := rest) (g := F0 m pc ls (As.reverse ++ rest)) ⟨C.1, C.2.1, C.2.2.1, C.2.2.2.1, ht⟩ (hM H.size) ⟨callB_of n ht (gw_code c5) rfl rfl rfl (ht _ c4) (ht _ c1) ⟨c7, c8, c9⟩ hR, ht _ c2⟩ ⟨PS_blind, fun U hU hW => ⟨rfl, by rw [hU], C.2.2.2.2.2.1.go hS hU hW, hE.go hS hU hW hsub⟩⟩ rfl hn hv.1 rfl (lv_room hw) hd ⟨Nat.zero_le _, Nat.zero_le _⟩) hS hv K
theorem as_gets (C : Cx p s m args meth c cc nL own D cy z 0 q) {C0 n0 d0 : String} {v0 : Value} {idx : Nat} (hZ : va_Z C0 n0 d0 v0 (wA 0 q s.heap.size) s s.heap) (hd : decode cc pc = .ok (.getstatic idx, 3)) (hl : Cond.fieldLink own idx C0 n0 d0 ∈ gw_tbl) (K : AW p l e R s m args below meth c D 0 q nL Q f lv (pc + 3) (v0 :: st)) : AW p l e R s m args below meth c D 0 q nL Q f lv pc st :=
  fun H locs ls hP hS hv => va_gets C.1 C.2.1 hZ hS C.2.2.2.1 (C.2.2.2.2.1 _ hl) (fun x hx => hx) hd (K H locs ls hP hS hv)
theorem as_getf (C : Cx p s m args meth c cc nL own D cy z 0 q) {n0 d0 : String} {v0 : Value} {idx a : Nat} (hZ : va_OF "java/lang/String" n0 d0 v0 a (wA 0 q s.heap.size) s s.heap) (hd : decode cc pc = .ok (.getfield idx, 3)) (hl : Cond.fieldLink own idx "java/lang/String" n0 d0 ∈ gw_tbl) (K : AW p l e R s m args below meth c D 0 q nL Q f lv (pc + 3) (v0 :: st)) : AW p l e R s m args below meth c D 0 q nL Q f lv pc (.ref a :: st) :=
  fun H locs ls hP hS hv => vk_getf C.1 C.2.1 hZ hS C.2.2.2.1 (C.2.2.2.2.1 _ hl) (fun x hx => hx) hd (K H locs ls hP hS hv)
theorem as_len (C : Cx p s m args meth c cc nL own D cy z 0 q) {ty : FieldType} {t n : Nat} {g : Nat → Value} (hT : va_T ty t n g (wA 0 q s.heap.size) s s.heap) (hd : decode cc pc = .ok (.arraylength, 1)) (K : AW p l e R s m args below meth c D 0 q nL Q f lv (pc + 1) (.int (nI n) :: st)) : AW p l e R s m args below meth c D 0 q nL Q f lv pc (.ref t :: st) :=
  fun H locs ls hP hS hv => va_tlen C.1 C.2.1 hT hS rfl hd (K H locs ls hP hS hv)
theorem as_byt (C : Cx p s m args meth c cc nL own D cy z 0 q) {t n j : Nat} {g : Nat → Value} {x : Int32} (hT : va_T .byte t n g (wA 0 q s.heap.size) s s.heap) (hj : j < n) (hn : n < 2147483648) (hg : g j = .int x) (hd : decode cc pc = .ok (.baload, 1)) (K : AW p l e R s m args below meth c D 0 q nL Q f lv (pc + 1) (.int x :: st)) : AW p l e R s m args below meth c D 0 q nL Q f lv pc (.int (nI j) :: .ref t :: st) :=
  fun H locs ls hP hS hv => va_tb C.1 C.2.1 hT hS (vp_in_nI hj hn) (by rw [nI_clamp (by omega)]; exact hg) hd (K H locs ls hP hS hv)
end STRS
theorem i2c_a : ∀ c, c < 127 → ((nI c &&& nI 255).toUInt32 % 65536).toInt32 = nI c := by decide +kernel
theorem cj_coder {l : Launch} {D : va_G} {cy : Nat → ClassId} {z q : Nat → Nat} {sA sV : Nat} {v : Value}  : Cs l yJ0_coder_7d493 cJ0_coder_7d493 1 (some .byte) 0 0 D cy z q sA sV v [.ref sA] (some (.int 0)) := by
  refine Cs.of (f := fun _ => .inr (0, [])) (own := RJ0) (by decide) rfl (by first | exact Nat.le_of_ble_eq_true rfl | (rcases hv with rfl | ⟨a, rfl⟩ <;> exact Nat.le_of_ble_eq_true rfl)) ?_
  intro p e s m args below meth c C hX hr
  refine aw_lv (lv' := [(0, .ref sA)]) (fun x hx => hx) ?_
  refine as_gets C hX.2.1 dJ0_coder_7d493_0 (gw_at 275 (by decide +kernel) rfl) ?_
  refine aw_if_eq (tgt := 13) C dJ0_coder_7d493_3 (by decide) (fun h => absurd h (by decide)) (fun _ => ?_)
  refine aw_aload_n C dJ0_coder_7d493_6 (i := 0) rfl rfl ?_
  refine as_getf C (hX.1.1 0 (by decide)).2.1 dJ0_coder_7d493_7 (gw_at 1045 (by decide +kernel) rfl) ?_
  refine aw_goto (tgt := 14) C dJ0_coder_7d493_10 (by decide) ?_
  exact as_zret C hr dJ0_coder_7d493_14 rfl
theorem cj_isLatin1 {l : Launch} {D : va_G} {cy : Nat → ClassId} {z q : Nat → Nat} {sA sV : Nat} {v : Value}  : Cs l yJ0_isLatin1_aae02 cJ0_isLatin1_aae02 1 (some .boolean) 0 0 D cy z q sA sV v [.ref sA] (some (.int (nI 1))) := by
  refine Cs.of (f := fun _ => .inr (0, [])) (own := RJ0) (by decide) rfl (by first | exact Nat.le_of_ble_eq_true rfl | (rcases hv with rfl | ⟨a, rfl⟩ <;> exact Nat.le_of_ble_eq_true rfl)) ?_
  intro p e s m args below meth c C hX hr
  refine aw_lv (lv' := [(0, .ref sA)]) (fun x hx => hx) ?_
  refine as_gets C hX.2.1 dJ0_isLatin1_aae02_0 (gw_at 275 (by decide +kernel) rfl) ?_
  refine aw_if_eq (tgt := 17) C dJ0_isLatin1_aae02_3 (by decide) (fun h => absurd h (by decide)) (fun _ => ?_)
  refine aw_aload_n C dJ0_isLatin1_aae02_6 (i := 0) rfl rfl ?_
  refine as_getf C (hX.1.1 0 (by decide)).2.1 dJ0_isLatin1_aae02_7 (gw_at 1045 (by decide +kernel) rfl) ?_
  refine aw_if_ne (tgt := 17) C dJ0_isLatin1_aae02_10 (by decide) (fun h => absurd rfl h) (fun _ => ?_)
  refine aw_iconst C dJ0_isLatin1_aae02_13 ki_1 ?_
  refine aw_goto (tgt := 18) C dJ0_isLatin1_aae02_14 (by decide) ?_
  exact as_zret C hr dJ0_isLatin1_aae02_18 rfl
theorem cj_length {l : Launch} {D : va_G} {cy : Nat → ClassId} {z q : Nat → Nat} {sA sV : Nat} {v : Value}  : Cs l yJ0_length_8abf5 cJ0_length_8abf5 1 (some .int) 1 20 D cy z q sA sV v [.ref sA] (some (.int (nI 80))) := by
  refine Cs.of (f := fun _ => .inr (0, [])) (own := RJ0) (by decide) rfl (by first | exact Nat.le_of_ble_eq_true rfl | (rcases hv with rfl | ⟨a, rfl⟩ <;> exact Nat.le_of_ble_eq_true rfl)) ?_
  intro p e s m args below meth c C hX hr
  refine aw_lv (lv' := [(0, .ref sA)]) (fun x hx => hx) ?_
  refine aw_aload_n C dJ0_length_8abf5_0 (i := 0) rfl rfl ?_
  refine as_getf C (hX.1.1 0 (by decide)).2.2.1 dJ0_length_8abf5_1 (gw_at 1044 (by decide +kernel) rfl) ?_
  refine as_len C (hX.1.1 0 (by decide)).2.2.2 dJ0_length_8abf5_4 ?_
  refine aw_aload_n C dJ0_length_8abf5_5 (i := 0) rfl rfl ?_
  refine as_callV (As := []) (As0 := []) C hX dJ0_length_8abf5_6 cv_J0_335 cj_coder rfl rfl rfl ⟨Nat.le_of_ble_eq_true rfl, Nat.le_of_ble_eq_true rfl⟩ (Nat.le_of_ble_eq_true rfl) ?_
  refine aw_ishr C dJ0_length_8abf5_9 ?_
  exact as_iret C hr dJ0_length_8abf5_10
theorem cj_check3 {l : Launch} {D : va_G} {cy : Nat → ClassId} {z q : Nat → Nat} {sA sV : Nat} {v : Value} (hv : v = .null ∨ ∃ a, v = .ref a) {j : Nat} (hj : j < 80) : Cs l yJ3_checkIndex_8e157 cJ3_checkIndex_8e157 3 (some .int) 0 0 D cy z q sA sV v [.int (nI j), .int (nI 80), v] (some (.int (nI j))) := by
  have hc : v.category = 1 := by rcases hv with rfl | ⟨a, rfl⟩ <;> rfl
  refine Cs.of (f := fun _ => .inr (0, [])) (own := RJ3) (by decide) rfl (by first | exact Nat.le_of_ble_eq_true rfl | (rcases hv with rfl | ⟨a, rfl⟩ <;> exact Nat.le_of_ble_eq_true rfl)) ?_
  intro p e s m args below meth c C hX hr
  refine aw_lv (lv' := [(0, .int (nI j)), (1, .int (nI 80)), (2, v)]) (fun x hx => hx) ?_
  refine aw_iload_n C dJ3_checkIndex_8e157_0 (i := 0) rfl rfl ?_
  refine aw_if_lt_n (tgt := 9) C dJ3_checkIndex_8e157_1 (by decide) (by omega) ?_
  refine aw_iload_n C dJ3_checkIndex_8e157_4 (i := 0) rfl rfl ?_
  refine aw_iload_n C dJ3_checkIndex_8e157_5 (i := 1) rfl rfl ?_
  refine aw_icmp_lt_n (tgt := 16) C dJ3_checkIndex_8e157_6 (by decide) (by omega) (by omega) (fun _ => ?_) (fun h => absurd hj (Nat.not_lt.mpr h))
  refine aw_iload_n C dJ3_checkIndex_8e157_16 (i := 0) rfl rfl ?_
  exact as_iret C hr dJ3_checkIndex_8e157_17
theorem cj_check {l : Launch} {D : va_G} {cy : Nat → ClassId} {z q : Nat → Nat} {sA sV : Nat} {v : Value} (hv : v = .null ∨ ∃ a, v = .ref a) {j : Nat} (hj : j < 80) : Cs l yJ0_checkIndex_df160 cJ0_checkIndex_df160 2 none 1 22 D cy z q sA sV v [.int (nI j), .int (nI 80)] none := by
  refine Cs.of (f := fun _ => .inr (0, [])) (own := RJ0) (by decide) rfl (by first | exact Nat.le_of_ble_eq_true rfl | (rcases hv with rfl | ⟨a, rfl⟩ <;> exact Nat.le_of_ble_eq_true rfl)) ?_
  intro p e s m args below meth c C hX hr
  refine aw_lv (lv' := [(0, .int (nI j)), (1, .int (nI 80))]) (fun x hx => hx) ?_
  refine aw_iload_n C dJ0_checkIndex_df160_0 (i := 0) rfl rfl ?_
  refine aw_iload_n C dJ0_checkIndex_df160_1 (i := 1) rfl rfl ?_
  refine as_gets C hX.2.2 dJ0_checkIndex_df160_2 (gw_at 291 (by decide +kernel) rfl) ?_
  refine as_callS (As := [.int (nI j), .int (nI 80), v]) (As0 := [v, .int (nI 80), .int (nI j)]) (rest := []) C hX dJ0_checkIndex_df160_5 cs_J0_1059 (cj_check3 hv hj) rfl rfl rfl ⟨Nat.le_of_ble_eq_true rfl, Nat.le_of_ble_eq_true rfl⟩ (Nat.le_of_ble_eq_true rfl) ?_
  refine aw_pop C dJ0_checkIndex_df160_8 rfl ?_
  exact as_vret C hr dJ0_checkIndex_df160_9
theorem cj_latin {l : Launch} {D : va_G} {cy : Nat → ClassId} {z q : Nat → Nat} {sA sV : Nat} {v : Value} (hv : v = .null ∨ ∃ a, v = .ref a) {j : Nat} (hj : j < 80) : Cs l yJ1_charAt_3b067 cJ1_charAt_3b067 2 (some .char) 2 43 D cy z q sA sV v [.ref sV, .int (nI j)] (some (.int (nI (fTn.getD j 0)))) := by
  refine Cs.of (f := fun _ => .inr (0, [])) (own := RJ1) (by decide) rfl (by first | exact Nat.le_of_ble_eq_true rfl | (rcases hv with rfl | ⟨a, rfl⟩ <;> exact Nat.le_of_ble_eq_true rfl)) ?_
  intro p e s m args below meth c C hX hr
  refine aw_lv (lv' := [(0, .ref sV), (1, .int (nI j))]) (fun x hx => hx) ?_
  refine aw_iload_n C dJ1_charAt_3b067_0 (i := 1) rfl rfl ?_
  refine aw_aload_n C dJ1_charAt_3b067_1 (i := 0) rfl rfl ?_
  refine as_len C (hX.1.1 0 (by decide)).2.2.2 dJ1_charAt_3b067_2 ?_
  refine as_callS (As := [.int (nI j), .int (nI 80)]) (As0 := [.int (nI 80), .int (nI j)]) (rest := []) C hX dJ1_charAt_3b067_3 cs_J1_9 (cj_check hv hj) rfl rfl rfl ⟨Nat.le_of_ble_eq_true rfl, Nat.le_of_ble_eq_true rfl⟩ (Nat.le_of_ble_eq_true rfl) ?_
  refine aw_aload_n C dJ1_charAt_3b067_6 (i := 0) rfl rfl ?_
  refine aw_iload_n C dJ1_charAt_3b067_7 (i := 1) rfl rfl ?_
  refine as_byt C (x := nI (fTn.getD j 0)) (hX.1.1 0 (by decide)).2.2.2 hj (by decide) (congrArg Value.int (fT_n j hj).1) dJ1_charAt_3b067_8 ?_
  refine aw_sipush C dJ1_charAt_3b067_9 (ks_255) ?_
  refine aw_iand C dJ1_charAt_3b067_12 ?_
  have h9 := fT_n j hj
  refine aw_i2c C dJ1_charAt_3b067_13 (v := nI (fTn.getD j 0)) (i2c_a _ (by omega)) ?_
  exact as_zret C hr dJ1_charAt_3b067_14 (pk_charN (by omega)).1
theorem cj_charAt {l : Launch} {D : va_G} {cy : Nat → ClassId} {z q : Nat → Nat} {sA sV : Nat} {v : Value} (hv : v = .null ∨ ∃ a, v = .ref a) {j : Nat} (hj : j < 80) : Cs l yJ0_charAt_5068e cJ0_charAt_5068e 2 (some .char) 3 64 D cy z q sA sV v [.ref sA, .int (nI j)] (some (.int (nI (fTn.getD j 0)))) := by
  refine Cs.of (f := fun _ => .inr (0, [])) (own := RJ0) (by decide) rfl (by first | exact Nat.le_of_ble_eq_true rfl | (rcases hv with rfl | ⟨a, rfl⟩ <;> exact Nat.le_of_ble_eq_true rfl)) ?_
  intro p e s m args below meth c C hX hr
  refine aw_lv (lv' := [(0, .ref sA), (1, .int (nI j))]) (fun x hx => hx) ?_
  refine aw_aload_n C dJ0_charAt_5068e_0 (i := 0) rfl rfl ?_
  refine as_callV (As := []) (As0 := []) C hX dJ0_charAt_5068e_1 cv_J0_492 cj_isLatin1 rfl rfl rfl ⟨Nat.le_of_ble_eq_true rfl, Nat.le_of_ble_eq_true rfl⟩ (Nat.le_of_ble_eq_true rfl) ?_
  refine aw_if_eq (tgt := 16) C dJ0_charAt_5068e_4 (by decide) (fun h => absurd h (by decide)) (fun _ => ?_)
  refine aw_aload_n C dJ0_charAt_5068e_7 (i := 0) rfl rfl ?_
  refine as_getf C (hX.1.1 0 (by decide)).2.2.1 dJ0_charAt_5068e_8 (gw_at 1044 (by decide +kernel) rfl) ?_
  refine aw_iload_n C dJ0_charAt_5068e_11 (i := 1) rfl rfl ?_
  refine as_callS (As := [.ref sV, .int (nI j)]) (As0 := [.int (nI j), .ref sV]) (rest := []) C hX dJ0_charAt_5068e_12 cs_J0_495 (cj_latin hv hj) rfl rfl rfl ⟨Nat.le_of_ble_eq_true rfl, Nat.le_of_ble_eq_true rfl⟩ (Nat.le_of_ble_eq_true rfl) ?_
  have h9 := fT_n j hj
  exact as_zret C hr dJ0_charAt_5068e_15 (pk_charN (by omega)).1
