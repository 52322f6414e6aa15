-- the law (its head: the skeleton's)
def R_law : String := "BondedWiresLaw"
def lw_P (b : Addr) (xs : List Int32) (args : Array Value) (s : State) : Prop := args = #[.ref b] ∧ s.IntsAt b xs ∧ xs.length ≤ 3072 ∧ (Jvm.Cond.and given_1 narrow_1).before args s = true
def lw_Q (_ : Array Value) (s : State) (o : Outcome) (t : State) : Prop := o = .returned (some (.int 1)) ∧ Framed s o t [] 600000 7302250
def lw_Z (below : List Frame) (a : Array Value) (s : State) : State → Prop := fun t => ∃ o, t.status = .running ∧ Ended t below o ∧ lw_Q a s o t
/-- the law's own end, with 1 on the stack, nothing written that was there before, its room as the claim has it -/
theorem lw_ret {p : Program} {l : Launch} {e : Env} {s : State} {m : MethodId} {below : List Frame} {meth : Method} {c : Code} {b : Nat} (hx : p.tables.exec = Jvm.exec) (hb : c.code = code) (hr : meth.sig.returnType = ret) (hlocks : meth.locks = false) {pc : Nat} {H : Heap} {ls : Array Slot} (hdg : decode code pc = .ok (.ireturn, 1)) : W p l e room_1 s m #[Value.ref b] below meth c H [] 600000 7302250 (lw_Z below #[Value.ref b] s) (F0 m pc ls [.int 1]) := by
  intro T hT X
  obtain ⟨fs, hret, hrun, hended, hW, hframe⟩ := X.leave (v := some (.int 1)) (hlocks := hlocks) (fun h => by rw [hr] at h; cases h)
  have hmeth' : T.vm.method? m = some meth := X.method'
  refine ⟨T.setFrames fs, ?_, .returned (some (.int 1)), hrun, hended, rfl, ⟨_, rfl⟩, hW, hframe⟩
  jvm_step X.here [X.here.top, hx, hb, hdg, hmeth', hr, ret, narrow_b1]
  (try refine ⟨rfl, ?_⟩); (try refine ⟨rfl, ?_⟩)
  first | (intro acts; rw [hret _ acts rfl rfl rfl]) | rw [hret _ _ rfl rfl rfl]
  exact Steps.refl _
/-- what holds at the law's entry: the machine, the code, the tables' words (any of lw_tbl by 'hts w (by decide +kernel)'), the script of L ints xs at the cell b, what the Statement gives of the start (any of its parts by flat_of_before) -/
def lw_At (p : Program) (s : State) (m : MethodId) (meth : Method) (c : Code) (b L : Nat) (xs : Nat → Int32) : Prop :=
  p.tables.exec = Jvm.exec ∧ c.code = code ∧ meth.sig.returnType = ret ∧ c.maxLocals = 4 ∧ s.vm.findClass R_law = some m.cls ∧ (∀ w ∈ lw_tbl, w.before #[Value.ref b] s = true) ∧ va_X b L xs s s.heap ∧ b < s.heap.size ∧ meth.locks = false ∧ (Jvm.Cond.and given_1 narrow_1).before #[Value.ref b] s = true
section LAW
variable {p : Program} {l : Launch} {e : Env} {R : Room} {s : State} {m : MethodId} {args : Array Value} {below : List Frame} {meth : Method} {c : Code} {Q : State → Prop}
variable {cc : ByteArray} {nL : Nat} {own : String} {D : va_G} {cy : Nat → ClassId} {z : Nat → Nat} {sA sV : Nat} {v : Value} {k n : Nat}
variable {N1 N2 : Nat} {q1 q2 : Nat → Nat} {f1 f2 : wS} {lv : List (Nat × Value)} {pc : Nat} {st : List Value}
/-- two worlds beside each other -/
def AL (p : Program) (l : Launch) (e : Env) (R : Room) (s : State) (m : MethodId) (args : Array Value) (below : List Frame) (meth : Method) (c : Code) (D : va_G) (nL : Nat) (Q : State → Prop) (k n N1 : Nat) (q1 : Nat → Nat) (f1 : wS) (N2 : Nat) (q2 : Nat → Nat) (f2 : wS) (lv : List (Nat × Value)) (pc : Nat) (st : List Value) : Prop :=
  ∀ (H : Heap) (locs : List Loc) (ls : Array Slot), va_P D vwCl (wl N1 q1 f1) H → va_P D vwCl (wl N2 q2 f2) H → va_S (fun a => s.heap.size ≤ a) s.heap H locs → lv_has ls nL lv → W p l e R s m args below meth c H locs k n Q (F0 m pc ls st)
def Tq (s : State) (N1 : Nat) (q1 : Nat → Nat) (N2 : Nat) (q2 : Nat → Nat) : Prop := wI N1 q1 ∧ wI N2 q2 ∧ (∀ i j, i < N1 → j < N2 → q1 i ≠ q2 j) ∧ (∀ i, i < N1 → s.heap.size ≤ q1 i) ∧ ∀ j, j < N2 → s.heap.size ≤ q2 j
theorem Tq.sw (h : Tq s N1 q1 N2 q2) : Tq s N2 q2 N1 q1 := ⟨h.2.1, h.1, fun i j hi hj e => h.2.2.1 j i hj hi e.symm, h.2.2.2.2, h.2.2.2.1⟩
theorem al_sw (K : AL p l e R s m args below meth c D nL Q k n N2 q2 f2 N1 q1 f1 lv pc st) : AL p l e R s m args below meth c D nL Q k n N1 q1 f1 N2 q2 f2 lv pc st := fun H locs ls hP hP2 hS hv => K H locs ls hP2 hP hS hv
theorem al_aload_n (C : Cn p s m args meth c cc nL own D cy z sA sV v (fun a => s.heap.size ≤ a)) {j : Fin 4} {i x : Nat} (hd : decode cc pc = .ok (.aload_n j, 1)) (hi : (j : Nat) = i) (hl : lk lv i = some (.ref x)) (K : AL p l e R s m args below meth c D nL Q k n N1 q1 f1 N2 q2 f2 lv (pc + 1) (.ref x :: st)) : AL p l e R s m args below meth c D nL Q k n N1 q1 f1 N2 q2 f2 lv pc st := fun H locs ls hP hP2 hS hv => lv_aload_n C.1 C.2.1 hd hi (lk_at hv hl) (K H locs ls hP hP2 hS hv)
theorem al_iload_n (C : Cn p s m args meth c cc nL own D cy z sA sV v (fun a => s.heap.size ≤ a)) {j : Fin 4} {i : Nat} {x : Int32} (hd : decode cc pc = .ok (.iload_n j, 1)) (hi : (j : Nat) = i) (hl : lk lv i = some (.int x)) (K : AL p l e R s m args below meth c D nL Q k n N1 q1 f1 N2 q2 f2 lv (pc + 1) (.int x :: st)) : AL p l e R s m args below meth c D nL Q k n N1 q1 f1 N2 q2 f2 lv pc st := fun H locs ls hP hP2 hS hv => lv_iload_n C.1 C.2.1 hd hi (lk_at hv hl) (K H locs ls hP hP2 hS hv)
theorem al_iconst (C : Cn p s m args meth c cc nL own D cy z sA sV v (fun a => s.heap.size ≤ a)) {x : Int} {w : Int32} (hd : decode cc pc = .ok (.iconst x, 1)) (hx : Int32.ofInt x = w) (K : AL p l e R s m args below meth c D nL Q k n N1 q1 f1 N2 q2 f2 lv (pc + 1) (.int w :: st)) : AL p l e R s m args below meth c D nL Q k n N1 q1 f1 N2 q2 f2 lv pc st := fun H locs ls hP hP2 hS hv => lv_iconst C.1 C.2.1 hd hx (K H locs ls hP hP2 hS hv)
theorem al_bipush (C : Cn p s m args meth c cc nL own D cy z sA sV v (fun a => s.heap.size ≤ a)) {x : Int} {w : Int32} (hd : decode cc pc = .ok (.bipush x, 2)) (hx : (Int8.ofInt x).toInt32 = w) (K : AL p l e R s m args below meth c D nL Q k n N1 q1 f1 N2 q2 f2 lv (pc + 2) (.int w :: st)) : AL p l e R s m args below meth c D nL Q k n N1 q1 f1 N2 q2 f2 lv pc st := fun H locs ls hP hP2 hS hv => lv_bipush C.1 C.2.1 hd hx (K H locs ls hP hP2 hS hv)
theorem al_iadd (C : Cn p s m args meth c cc nL own D cy z sA sV v (fun a => s.heap.size ≤ a)) {a b : Nat} (hd : decode cc pc = .ok (.iadd, 1)) (K : AL p l e R s m args below meth c D nL Q k n N1 q1 f1 N2 q2 f2 lv (pc + 1) (.int (nI (a + b)) :: st)) : AL p l e R s m args below meth c D nL Q k n N1 q1 f1 N2 q2 f2 lv pc (.int (nI b) :: .int (nI a) :: st) := fun H locs ls hP hP2 hS hv => lv_iadd C.1 C.2.1 hd (by rw [nI_add]; exact K H locs ls hP hP2 hS hv)
theorem al_isub (C : Cn p s m args meth c cc nL own D cy z sA sV v (fun a => s.heap.size ≤ a)) {x y : Int32} (hd : decode cc pc = .ok (.isub, 1)) (K : AL p l e R s m args below meth c D nL Q k n N1 q1 f1 N2 q2 f2 lv (pc + 1) (.int (x - y) :: st)) : AL p l e R s m args below meth c D nL Q k n N1 q1 f1 N2 q2 f2 lv pc (.int y :: .int x :: st) := fun H locs ls hP hP2 hS hv => lv_isub C.1 C.2.1 hd (K H locs ls hP hP2 hS hv)
theorem al_iand (C : Cn p s m args meth c cc nL own D cy z sA sV v (fun a => s.heap.size ≤ a)) {x y : Int32} (hd : decode cc pc = .ok (.iand, 1)) (K : AL p l e R s m args below meth c D nL Q k n N1 q1 f1 N2 q2 f2 lv (pc + 1) (.int (x &&& y) :: st)) : AL p l e R s m args below meth c D nL Q k n N1 q1 f1 N2 q2 f2 lv pc (.int y :: .int x :: st) := fun H locs ls hP hP2 hS hv => lv_iand C.1 C.2.1 hd (K H locs ls hP hP2 hS hv)
theorem al_goto (C : Cn p s m args meth c cc nL own D cy z sA sV v (fun a => s.heap.size ≤ a)) {off : Int} {tgt : Nat} (hd : decode cc pc = .ok (.goto off, 3)) (ht : (pc : Int) + off = (tgt : Int)) (K : AL p l e R s m args below meth c D nL Q k n N1 q1 f1 N2 q2 f2 lv tgt st) : AL p l e R s m args below meth c D nL Q k n N1 q1 f1 N2 q2 f2 lv pc st := fun H locs ls hP hP2 hS hv => lv_goto C.1 C.2.1 hd ht (K H locs ls hP hP2 hS hv)
theorem al_icmp_gt (C : Cn p s m args meth c cc nL own D cy z sA sV v (fun a => s.heap.size ≤ a)) {x y : Int32} {off : Int} {tgt : Nat} (hd : decode cc pc = .ok (.if_icmp .gt off, 3)) (ht : (pc : Int) + off = (tgt : Int)) (K1 : y < x → AL p l e R s m args below meth c D nL Q k n N1 q1 f1 N2 q2 f2 lv tgt st) (K2 : ¬ y < x → AL p l e R s m args below meth c D nL Q k n N1 q1 f1 N2 q2 f2 lv (pc + 3) st) : AL p l e R s m args below meth c D nL Q k n N1 q1 f1 N2 q2 f2 lv pc (.int y :: .int x :: st) := fun H locs ls hP hP2 hS hv => lv_icmp_gt C.1 C.2.1 hd ht (fun h => K1 h H locs ls hP hP2 hS hv) (fun h => K2 h H locs ls hP hP2 hS hv)
theorem al_icmp_eq (C : Cn p s m args meth c cc nL own D cy z sA sV v (fun a => s.heap.size ≤ a)) {x : Int32} {off : Int} {tgt : Nat} (hd : decode cc pc = .ok (.if_icmp .eq off, 3)) (ht : (pc : Int) + off = (tgt : Int)) (K : AL p l e R s m args below meth c D nL Q k n N1 q1 f1 N2 q2 f2 lv tgt st) : AL p l e R s m args below meth c D nL Q k n N1 q1 f1 N2 q2 f2 lv pc (.int x :: .int x :: st) := fun H locs ls hP hP2 hS hv => lv_icmp_eq C.1 C.2.1 hd ht (fun h => K H locs ls hP hP2 hS hv) (fun h => absurd rfl h)
theorem al_tin (C : Cn p s m args meth c cc nL own D cy z sA sV v (fun a => s.heap.size ≤ a)) {dflt lo hi : Int} {offs : Array Int} {len : Nat} {x : Int32} {off w : Int} {tgt : Nat} (hd : decode cc pc = .ok (.tableswitch dflt lo hi offs, len)) (hx : x.toInt = w) (h1 : ¬ w < lo) (h2 : ¬ hi < w) (ho : offs[(w - lo).toNat]? = some off) (ht : (pc : Int) + off = (tgt : Int)) (K : AL p l e R s m args below meth c D nL Q k n N1 q1 f1 N2 q2 f2 lv tgt st) : AL p l e R s m args below meth c D nL Q k n N1 q1 f1 N2 q2 f2 lv pc (.int x :: st) := fun H locs ls hP hP2 hS hv => lv_tableIn C.1 C.2.1 hd (by rw [hx]; exact h1) (by rw [hx]; exact h2) (by rw [hx]; exact ho) ht (K H locs ls hP hP2 hS hv)
theorem al_tout (C : Cn p s m args meth c cc nL own D cy z sA sV v (fun a => s.heap.size ≤ a)) {dflt lo hi : Int} {offs : Array Int} {len : Nat} {x : Int32} {tgt : Nat} (hd : decode cc pc = .ok (.tableswitch dflt lo hi offs, len)) (h : x.toInt < lo ∨ hi < x.toInt) (ht : (pc : Int) + dflt = (tgt : Int)) (K : AL p l e R s m args below meth c D nL Q k n N1 q1 f1 N2 q2 f2 lv tgt st) : AL p l e R s m args below meth c D nL Q k n N1 q1 f1 N2 q2 f2 lv pc (.int x :: st) := fun H locs ls hP hP2 hS hv => lv_tableOut C.1 C.2.1 hd h ht (K H locs ls hP hP2 hS hv)
theorem al_iinc (C : Cn p s m args meth c cc nL own D cy z sA sV v (fun a => s.heap.size ≤ a)) {i a d : Nat} {x : Int} {lv' : List (Nat × Value)} (hd : decode cc pc = .ok (.iinc i x, 3)) (hl0 : lk lv i = some (.int (nI a))) (hx : Int32.ofInt x = nI d) (hn : i < nL) (hl : lset i (.int (nI (a + d))) lv = lv') (K : AL p l e R s m args below meth c D nL Q k n N1 q1 f1 N2 q2 f2 lv' (pc + 3) st) : AL p l e R s m args below meth c D nL Q k n N1 q1 f1 N2 q2 f2 lv pc st := fun H locs ls hP hP2 hS hv => by
  obtain ⟨k9, hk9⟩ := List.getElem?_of_mem (lk_mem hl0)
  exact lv_iinc (v := nI (a + d)) C.1 C.2.1 hd hv hk9 (by rw [hx, nI_add]) hn rfl (fun ls hv => K H locs ls hP hP2 hS (lv_mono hv (fun y hy => lset_mem (by rw [hl]; exact hy))))
/-- the script -/
theorem al_sld (C : Cn p s m args meth c cc nL own D cy z sA sV v (fun a => s.heap.size ≤ a)) {b L j : Nat} {xs : Nat → Int32} (hX : va_X b L xs s s.heap) (hbl : b < s.heap.size) (hj : j < L) (hL : L ≤ 3072) (hd : decode cc pc = .ok (.iaload, 1)) (K : AL p l e R s m args below meth c D nL Q k n N1 q1 f1 N2 q2 f2 lv (pc + 1) (.int (xs j) :: st)) : AL p l e R s m args below meth c D nL Q k n N1 q1 f1 N2 q2 f2 lv pc (.int (nI j) :: .ref b :: st) := fun H locs ls hP hP2 hS hv => by
  refine va_sld C.1 C.2.1 hX hbl (Nat.not_le.mpr hbl) hS (vp_in_nI hj (by omega)) hd ?_
  rw [nI_clamp (by omega)]
  exact K H locs ls hP hP2 hS hv
theorem al_slen (C : Cn p s m args meth c cc nL own D cy z sA sV v (fun a => s.heap.size ≤ a)) {b L : Nat} {xs : Nat → Int32} (hX : va_X b L xs s s.heap) (hbl : b < s.heap.size) (hd : decode cc pc = .ok (.arraylength, 1)) (K : AL p l e R s m args below meth c D nL Q k n N1 q1 f1 N2 q2 f2 lv (pc + 1) (.int (nI L) :: st)) : AL p l e R s m args below meth c D nL Q k n N1 q1 f1 N2 q2 f2 lv pc (.ref b :: st) := fun H locs ls hP hP2 hS hv => va_slen C.1 C.2.1 hX hbl (Nat.not_le.mpr hbl) hS hd (K H locs ls hP hP2 hS hv)
/-- a call in the first world; the second one stays -/
theorem al_call (C : Cn p s m args meth c cc nL own D cy z sA sV v (fun a => s.heap.size ≤ a)) (hT : Tq s N1 q1 N2 q2) {C0 : String} {idx n0 fr lo maxL i ci : Nat} {y : MethodName} {bytes : ByteArray} {ret : Option FieldType} {As As0 rest fs : List Value} {q0 : vw_C} {post : Option Value → wS → Prop} (hd : decode cc pc = .ok (.invokevirtual idx, 3)) (hc : CV own idx C0 y bytes maxL ret n0) (hM : Ct l y bytes maxL ret fr lo D cy z N1 q1 (.ref (q1 i) :: As) f1 post) (hs : st = As0 ++ (.ref (q1 i) :: rest)) (hA : As.reverse = As0) (hn0 : As.length = n0) (hR : fr + 1 ≤ R.frames ∧ 8 + (maxL + 11) + lo ≤ R.locals) (hw : (rest.map fun v => v.category).sum ≤ 8) (hk : k ≤ R.cells ∧ n ≤ R.slots) (hi : i < N1) (hf : f1 i = .inr (ci, fs)) (hq : vwCl[ci]? = some q0) (hq1 : q0.1 = C0) (K : ∀ (r : Option Value) (g : wS), post r g → AL p l e R s m args below meth c D nL Q k n N1 q1 g N2 q2 f2 lv (pc + 3) (r.toList ++ rest)) : AL p l e R s m args below meth c D nL Q k n N1 q1 f1 N2 q2 f2 lv pc st := fun H locs ls hP hP2 hS hv => by
  subst hA
  subst hs
  subst hq1
  obtain ⟨⟨c1, c2, c3, c4, c5⟩, c6, c7, c8, c9⟩ := hc
  have he : (wl N1 q1 f1)[i]? = some (q1 i, .inr (ci, fs)) := by rw [wl_get hi, hf]
  have ht := C.2.2.2.2.1
  have hini : (Cond.initialized y.cls).before args s = true := by rw [c6]; exact ht _ c4
  have hsub : ∀ x, wA N1 q1 H.size x → s.heap.size ≤ x := fun x hx => hx.elim (fun ⟨j, hj, e⟩ => by rw [← e]; exact hT.2.2.2.1 j hj) (fun h => Nat.le_trans hS.1 h)
  have hrun := va_runV (R := R) (l := l) (below := below) (locs := locs) (cells := k) (slots := n) (meth := meth) (e := e) (Ts := gw_tbl) (cc := cc) (nL := nL) (own := own) (n := n0) (bytes := bytes) (maxL := maxL) (ret := ret) (rm := { frames := fr, cells := 0, slots := 0, locals := lo }) (As := As) (rest := rest) (g := F0 m pc ls (As.reverse ++ (.ref (q1 i) :: rest))) ⟨C.1, C.2.1, C.2.2.1, C.2.2.2.1, ht⟩ (hM H.size) ⟨callB_of n0 ht (gw_code c5) rfl rfl rfl hini (ht _ c1) ⟨c7, c8, c9⟩ hR, ht _ c2, ht _ c3⟩ ⟨Pg_blind, va_recv C.2.2.2.2.2.1.1.1 hP hq he, fun U hU hW => ⟨rfl, by rw [hU], by rw [hU]; exact hP, C.2.2.2.2.2.1.1.goB hS hU hW hsub⟩⟩ rfl hn0 hv.1 rfl (lv_room hw) hd hk
  intro T hTT X
  obtain ⟨v0, st₀, t, T', L, h0, X', hL, e1, e2, ⟨⟨r, g, hv1, hp, hb⟩, hz, hkk⟩, stp⟩ := hrun T hTT X
  cases hv1
  rw [h0] at hz hkk
  have hkp : ∀ (j : Nat) (x : Nat × va_E), (wl N2 q2 f2)[j]? = some x → t.heap[x.1]? = H[x.1]? := fun j x hx => by
    have hlt := (hP2 j x hx).lt
    obtain ⟨hj, rfl⟩ := wl_of hx
    exact hkk _ hlt (fun hA => hA.elim (fun ⟨i2, hi2, e9⟩ => hT.2.2.1 i2 j hi2 hj e9) (fun h => absurd hlt (Nat.not_lt.mpr h)))
  obtain ⟨t2, a1, b1⟩ := K v0 g hp t.heap (locs ++ L) ls hb (hP2.kept hkp) ⟨Nat.le_trans hS.1 hz, fun x h1 h2 => by rw [hkk x (Nat.lt_of_lt_of_le h1 hS.1) (fun y => h2 (hsub x y))]; exact hS.2.1 x h1 h2, fun x hx => by
      rcases List.mem_append.mp hx with h | h
      · exact hS.2.2 x h
      · exact hsub _ (hL x h)⟩ hv T' e1 X'
  exact ⟨t2, stp t2 a1, b1⟩
/-- from the world that grew to the two -/
theorem an_AL {A : Nat → Prop} (hA : A = fun a => s.heap.size ≤ a) (K : Tq s N1 q1 N2 q2 → AL p l e R s m args below meth c D nL Q k n N1 q1 f1 N2 q2 f2 lv pc st) : AN p l e R s m args below meth c D A nL Q k n (wl N1 q1 f1 ++ wl N2 q2 f2) lv pc st := fun H locs ls hP hD hS hv => by
  subst hA
  have h1 : ∀ i, i < N1 → (wl N1 q1 f1 ++ wl N2 q2 f2)[i]? = some (q1 i, f1 i) := fun i hi => by
    rw [List.getElem?_append_left (by unfold wl; rw [List.length_map, List.length_range]; exact hi)]
    exact wl_get hi
  have h2 : ∀ j, j < N2 → (wl N1 q1 f1 ++ wl N2 q2 f2)[N1 + j]? = some (q2 j, f2 j) := fun j hj => by
    have hlen : (wl N1 q1 f1).length = N1 := by unfold wl; rw [List.length_map, List.length_range]
    rw [List.getElem?_append_right (by omega), hlen, show N1 + j - N1 = j by omega]
    exact wl_get hj
  refine K ⟨fun i j hi hj h => hD.1 i j _ _ (h1 i hi) (h1 j hj) h, fun i j hi hj h => ?_, fun i j hi hj h => ?_, fun i hi => hD.2 i _ (h1 i hi), fun j hj => hD.2 _ _ (h2 j hj)⟩ H locs ls (fun i x hx => ?_) (fun j x hx => ?_) hS hv
  · have := hD.1 _ _ _ _ (h2 i hi) (h2 j hj) h
    omega
  · have := hD.1 _ _ _ _ (h1 i hi) (h2 j hj) h
    omega
  · obtain ⟨hi, rfl⟩ := wl_of hx
    exact hP i _ (h1 i hi)
  · obtain ⟨hj, rfl⟩ := wl_of hx
    exact hP _ _ (h2 j hj)
end LAW
set_option maxRecDepth 20000 in
theorem lc_write {l : Launch} {D : va_G} {cy : Nat → ClassId} {z : Nat → Nat} {sA sV : Nat} {v : Value} {p : Program} {e : Env} {s : State} {m : MethodId} {args : Array Value} {below : List Frame} {meth : Method} {c : Code} {Q : State → Prop} {q1 q2 : Nat → Nat} {b L : Nat} {xs : Nat → Int32} (C : Cn p s m args meth c cL_law 4 RL D cy z sA sV v (fun a => s.heap.size ≤ a)) (hT : Tq s 49 q1 9 q2) (hX : va_X b L xs s s.heap) (hbl : b < s.heap.size) (hL : L ≤ 3072) {t : Nat} (ht : t + 6 ≤ L) {len span wires chg : Nat} {text : Nat → Nat} {h was eyes : Nat → Int32} {g1 : wS} {rsp rwi val ends : Nat} {rd fw bars ways : Nat → Int32} (hB : bwR cy q1 len span wires chg text h was eyes g1) (K : ∀ (len span wires chg : Nat) (text : Nat → Nat) (h was eyes : Nat → Int32) (g : wS) (rsp rwi val ends : Nat) (rd fw bars ways : Nat → Int32), bwR cy q1 len span wires chg text h was eyes g → AL p l e room_1 s m args below meth c D 4 Q 58 2495 49 q1 g 9 q2 (mdC cy q2 len span wires chg rsp rwi val ends text h was rd eyes fw bars ways) [(0, .ref b), (1, .ref (q1 0)), (2, .ref (q2 0)), (3, .int (nI t))] 783 []) : AL p l e room_1 s m args below meth c D 4 Q 58 2495 49 q1 g1 9 q2 (mdC cy q2 len span wires chg rsp rwi val ends text h was rd eyes fw bars ways) [(0, .ref b), (1, .ref (q1 0)), (2, .ref (q2 0)), (3, .int (nI t))] 148 [] := by
  obtain ⟨dsp, dwi, dat, pnx, vkn, dff, lbl, lsh, lpk, lett, num, lim, now, prw, plr, hgr, bk, bd, wio, wys, trl, clr, tld, tie, fst, las, saw, rfl, S9, Q9⟩ := hB
  have S8 := S9
  obtain ⟨hl, hb, hs, hs2, hw, hc, hO, hW, hK⟩ := S8
  refine al_aload_n C dL_law_148 (i := 1) rfl rfl ?_
  refine al_aload_n C dL_law_149 (i := 0) rfl rfl ?_
  refine al_iload_n C dL_law_150 (i := 3) rfl rfl ?_
  refine al_iconst C dL_law_151 ki_1 ?_
  refine al_iadd C dL_law_152 ?_
  refine al_sld C hX hbl (show t + 1 < L by omega) hL dL_law_153 ?_
  refine al_call (i := 0) (As := [.int (xs (t + 1))]) (As0 := [.int (xs (t + 1))]) (rest := []) C hT dL_law_154 cv_L_13 (cb_write hT.1 S9 Q9) rfl rfl rfl ⟨Nat.le_of_ble_eq_true rfl, Nat.le_of_ble_eq_true rfl⟩ (Nat.le_of_ble_eq_true rfl) ⟨Nat.le_of_ble_eq_true rfl, Nat.le_of_ble_eq_true rfl⟩ (by decide) rfl rfl rfl (fun r9 g9 hp9 => ?_)
  obtain ⟨x1, rfl, rfl, hB9⟩ := hp9
  refine al_sw ?_
  refine al_aload_n C dL_law_157 (i := 2) rfl rfl ?_
  refine al_aload_n C dL_law_158 (i := 0) rfl rfl ?_
  refine al_iload_n C dL_law_159 (i := 3) rfl rfl ?_
  refine al_iconst C dL_law_160 ki_1 ?_
  refine al_iadd C dL_law_161 ?_
  refine al_sld C hX hbl (show t + 1 < L by omega) hL dL_law_162 ?_
  refine al_call (i := 0) (As := [.int (xs (t + 1))]) (As0 := [.int (xs (t + 1))]) (rest := [_]) C hT.sw dL_law_163 cv_L_17 (cm_write hT.2.1 hl) rfl rfl rfl ⟨Nat.le_of_ble_eq_true rfl, Nat.le_of_ble_eq_true rfl⟩ (Nat.le_of_ble_eq_true rfl) ⟨Nat.le_of_ble_eq_true rfl, Nat.le_of_ble_eq_true rfl⟩ (by decide) rfl rfl rfl (fun r9 g9 hp9 => ?_)
  obtain ⟨x2, rfl, rfl, rsp, rwi, val, ends, rd, fw, bars, ways, rfl⟩ := hp9
  refine al_sw ?_
  refine al_icmp_eq (tgt := 783) C dL_law_166 (by decide) ?_
  exact K _ _ _ _ _ _ _ _ _ _ _ _ _ _ _ _ _ hB9
set_option maxRecDepth 20000 in
theorem lc_wipe {l : Launch} {D : va_G} {cy : Nat → ClassId} {z : Nat → Nat} {sA sV : Nat} {v : Value} {p : Program} {e : Env} {s : State} {m : MethodId} {args : Array Value} {below : List Frame} {meth : Method} {c : Code} {Q : State → Prop} {q1 q2 : Nat → Nat} {b L : Nat} {xs : Nat → Int32} (C : Cn p s m args meth c cL_law 4 RL D cy z sA sV v (fun a => s.heap.size ≤ a)) (hT : Tq s 49 q1 9 q2) (hX : va_X b L xs s s.heap) (hbl : b < s.heap.size) (hL : L ≤ 3072) {t : Nat} (ht : t + 6 ≤ L) {len span wires chg : Nat} {text : Nat → Nat} {h was eyes : Nat → Int32} {g1 : wS} {rsp rwi val ends : Nat} {rd fw bars ways : Nat → Int32} (hB : bwR cy q1 len span wires chg text h was eyes g1) (K : ∀ (len span wires chg : Nat) (text : Nat → Nat) (h was eyes : Nat → Int32) (g : wS) (rsp rwi val ends : Nat) (rd fw bars ways : Nat → Int32), bwR cy q1 len span wires chg text h was eyes g → AL p l e room_1 s m args below meth c D 4 Q 58 2495 49 q1 g 9 q2 (mdC cy q2 len span wires chg rsp rwi val ends text h was rd eyes fw bars ways) [(0, .ref b), (1, .ref (q1 0)), (2, .ref (q2 0)), (3, .int (nI t))] 783 []) : AL p l e room_1 s m args below meth c D 4 Q 58 2495 49 q1 g1 9 q2 (mdC cy q2 len span wires chg rsp rwi val ends text h was rd eyes fw bars ways) [(0, .ref b), (1, .ref (q1 0)), (2, .ref (q2 0)), (3, .int (nI t))] 171 [] := by
  obtain ⟨dsp, dwi, dat, pnx, vkn, dff, lbl, lsh, lpk, lett, num, lim, now, prw, plr, hgr, bk, bd, wio, wys, trl, clr, tld, tie, fst, las, saw, rfl, S9, Q9⟩ := hB
  have S8 := S9
  obtain ⟨hl, hb, hs, hs2, hw, hc, hO, hW, hK⟩ := S8
  refine al_aload_n C dL_law_171 (i := 1) rfl rfl ?_
  refine al_call (i := 0) (As := []) (As0 := []) (rest := []) C hT dL_law_172 cv_L_18 (cb_wipe hT.1 S9 Q9) rfl rfl rfl ⟨Nat.le_of_ble_eq_true rfl, Nat.le_of_ble_eq_true rfl⟩ (Nat.le_of_ble_eq_true rfl) ⟨Nat.le_of_ble_eq_true rfl, Nat.le_of_ble_eq_true rfl⟩ (by decide) rfl rfl rfl (fun r9 g9 hp9 => ?_)
  obtain ⟨x1, rfl, rfl, hB9⟩ := hp9
  refine al_sw ?_
  refine al_aload_n C dL_law_175 (i := 2) rfl rfl ?_
  refine al_call (i := 0) (As := []) (As0 := []) (rest := [_]) C hT.sw dL_law_176 cv_L_22 (cm_wipe hT.2.1 ) rfl rfl rfl ⟨Nat.le_of_ble_eq_true rfl, Nat.le_of_ble_eq_true rfl⟩ (Nat.le_of_ble_eq_true rfl) ⟨Nat.le_of_ble_eq_true rfl, Nat.le_of_ble_eq_true rfl⟩ (by decide) rfl rfl rfl (fun r9 g9 hp9 => ?_)
  obtain ⟨x2, rfl, rfl, rsp, rwi, val, ends, rd, fw, bars, ways, rfl⟩ := hp9
  refine al_sw ?_
  refine al_icmp_eq (tgt := 783) C dL_law_179 (by decide) ?_
  exact K _ _ _ _ _ _ _ _ _ _ _ _ _ _ _ _ _ hB9
set_option maxRecDepth 20000 in
theorem lc_fault {l : Launch} {D : va_G} {cy : Nat → ClassId} {z : Nat → Nat} {sA sV : Nat} {v : Value} {p : Program} {e : Env} {s : State} {m : MethodId} {args : Array Value} {below : List Frame} {meth : Method} {c : Code} {Q : State → Prop} {q1 q2 : Nat → Nat} {b L : Nat} {xs : Nat → Int32} (C : Cn p s m args meth c cL_law 4 RL D cy z sA sV v (fun a => s.heap.size ≤ a)) (hT : Tq s 49 q1 9 q2) (hX : va_X b L xs s s.heap) (hbl : b < s.heap.size) (hL : L ≤ 3072) {t : Nat} (ht : t + 6 ≤ L) {len span wires chg : Nat} {text : Nat → Nat} {h was eyes : Nat → Int32} {g1 : wS} {rsp rwi val ends : Nat} {rd fw bars ways : Nat → Int32} (hB : bwR cy q1 len span wires chg text h was eyes g1) (K : ∀ (len span wires chg : Nat) (text : Nat → Nat) (h was eyes : Nat → Int32) (g : wS) (rsp rwi val ends : Nat) (rd fw bars ways : Nat → Int32), bwR cy q1 len span wires chg text h was eyes g → AL p l e room_1 s m args below meth c D 4 Q 58 2495 49 q1 g 9 q2 (mdC cy q2 len span wires chg rsp rwi val ends text h was rd eyes fw bars ways) [(0, .ref b), (1, .ref (q1 0)), (2, .ref (q2 0)), (3, .int (nI t))] 783 []) : AL p l e room_1 s m args below meth c D 4 Q 58 2495 49 q1 g1 9 q2 (mdC cy q2 len span wires chg rsp rwi val ends text h was rd eyes fw bars ways) [(0, .ref b), (1, .ref (q1 0)), (2, .ref (q2 0)), (3, .int (nI t))] 184 [] := by
  obtain ⟨dsp, dwi, dat, pnx, vkn, dff, lbl, lsh, lpk, lett, num, lim, now, prw, plr, hgr, bk, bd, wio, wys, trl, clr, tld, tie, fst, las, saw, rfl, S9, Q9⟩ := hB
  have S8 := S9
  obtain ⟨hl, hb, hs, hs2, hw, hc, hO, hW, hK⟩ := S8
  refine al_aload_n C dL_law_184 (i := 1) rfl rfl ?_
  refine al_call (i := 0) (As := []) (As0 := []) (rest := []) C hT dL_law_185 cv_L_23 (cb_fault hT.1 S9 Q9) rfl rfl rfl ⟨Nat.le_of_ble_eq_true rfl, Nat.le_of_ble_eq_true rfl⟩ (Nat.le_of_ble_eq_true rfl) ⟨Nat.le_of_ble_eq_true rfl, Nat.le_of_ble_eq_true rfl⟩ (by decide) rfl rfl rfl (fun r9 g9 hp9 => ?_)
  obtain ⟨x1, rfl, rfl, hB9⟩ := hp9
  refine al_sw ?_
  refine al_aload_n C dL_law_188 (i := 2) rfl rfl ?_
  refine al_call (i := 0) (As := []) (As0 := []) (rest := [_]) C hT.sw dL_law_189 cv_L_26 (cm_fault hT.2.1 hl hb) rfl rfl rfl ⟨Nat.le_of_ble_eq_true rfl, Nat.le_of_ble_eq_true rfl⟩ (Nat.le_of_ble_eq_true rfl) ⟨Nat.le_of_ble_eq_true rfl, Nat.le_of_ble_eq_true rfl⟩ (by decide) rfl rfl rfl (fun r9 g9 hp9 => ?_)
  obtain ⟨x2, rfl, rfl, rsp, rwi, val, ends, rd, fw, bars, ways, rfl⟩ := hp9
  refine al_sw ?_
  refine al_icmp_eq (tgt := 783) C dL_law_192 (by decide) ?_
  exact K _ _ _ _ _ _ _ _ _ _ _ _ _ _ _ _ _ hB9
set_option maxRecDepth 20000 in
theorem lc_lay {l : Launch} {D : va_G} {cy : Nat → ClassId} {z : Nat → Nat} {sA sV : Nat} {v : Value} {p : Program} {e : Env} {s : State} {m : MethodId} {args : Array Value} {below : List Frame} {meth : Method} {c : Code} {Q : State → Prop} {q1 q2 : Nat → Nat} {b L : Nat} {xs : Nat → Int32} (C : Cn p s m args meth c cL_law 4 RL D cy z sA sV v (fun a => s.heap.size ≤ a)) (hT : Tq s 49 q1 9 q2) (hX : va_X b L xs s s.heap) (hbl : b < s.heap.size) (hL : L ≤ 3072) {t : Nat} (ht : t + 6 ≤ L) {len span wires chg : Nat} {text : Nat → Nat} {h was eyes : Nat → Int32} {g1 : wS} {rsp rwi val ends : Nat} {rd fw bars ways : Nat → Int32} (hB : bwR cy q1 len span wires chg text h was eyes g1) (K : ∀ (len span wires chg : Nat) (text : Nat → Nat) (h was eyes : Nat → Int32) (g : wS) (rsp rwi val ends : Nat) (rd fw bars ways : Nat → Int32), bwR cy q1 len span wires chg text h was eyes g → AL p l e room_1 s m args below meth c D 4 Q 58 2495 49 q1 g 9 q2 (mdC cy q2 len span wires chg rsp rwi val ends text h was rd eyes fw bars ways) [(0, .ref b), (1, .ref (q1 0)), (2, .ref (q2 0)), (3, .int (nI t))] 783 []) : AL p l e room_1 s m args below meth c D 4 Q 58 2495 49 q1 g1 9 q2 (mdC cy q2 len span wires chg rsp rwi val ends text h was rd eyes fw bars ways) [(0, .ref b), (1, .ref (q1 0)), (2, .ref (q2 0)), (3, .int (nI t))] 197 [] := by
  obtain ⟨dsp, dwi, dat, pnx, vkn, dff, lbl, lsh, lpk, lett, num, lim, now, prw, plr, hgr, bk, bd, wio, wys, trl, clr, tld, tie, fst, las, saw, rfl, S9, Q9⟩ := hB
  have S8 := S9
  obtain ⟨hl, hb, hs, hs2, hw, hc, hO, hW, hK⟩ := S8
  refine al_aload_n C dL_law_197 (i := 1) rfl rfl ?_
  refine al_call (i := 0) (As := []) (As0 := []) (rest := []) C hT dL_law_198 cv_L_27 (cb_lay hT.1 S9 Q9) rfl rfl rfl ⟨Nat.le_of_ble_eq_true rfl, Nat.le_of_ble_eq_true rfl⟩ (Nat.le_of_ble_eq_true rfl) ⟨Nat.le_of_ble_eq_true rfl, Nat.le_of_ble_eq_true rfl⟩ (by decide) rfl rfl rfl (fun r9 g9 hp9 => ?_)
  obtain ⟨x1, rfl, rfl, hB9⟩ := hp9
  refine al_sw ?_
  refine al_aload_n C dL_law_201 (i := 2) rfl rfl ?_
  refine al_call (i := 0) (As := []) (As0 := []) (rest := [_]) C hT.sw dL_law_202 cv_L_30 (cm_lay hT.2.1 hl hb) rfl rfl rfl ⟨Nat.le_of_ble_eq_true rfl, Nat.le_of_ble_eq_true rfl⟩ (Nat.le_of_ble_eq_true rfl) ⟨Nat.le_of_ble_eq_true rfl, Nat.le_of_ble_eq_true rfl⟩ (by decide) rfl rfl rfl (fun r9 g9 hp9 => ?_)
  obtain ⟨x2, rfl, rfl, rsp, rwi, val, ends, rd, fw, bars, ways, rfl⟩ := hp9
  refine al_sw ?_
  refine al_icmp_eq (tgt := 783) C dL_law_205 (by decide) ?_
  exact K _ _ _ _ _ _ _ _ _ _ _ _ _ _ _ _ _ hB9
set_option maxRecDepth 20000 in
theorem lc_set {l : Launch} {D : va_G} {cy : Nat → ClassId} {z : Nat → Nat} {sA sV : Nat} {v : Value} {p : Program} {e : Env} {s : State} {m : MethodId} {args : Array Value} {below : List Frame} {meth : Method} {c : Code} {Q : State → Prop} {q1 q2 : Nat → Nat} {b L : Nat} {xs : Nat → Int32} (C : Cn p s m args meth c cL_law 4 RL D cy z sA sV v (fun a => s.heap.size ≤ a)) (hT : Tq s 49 q1 9 q2) (hX : va_X b L xs s s.heap) (hbl : b < s.heap.size) (hL : L ≤ 3072) {t : Nat} (ht : t + 6 ≤ L) {len span wires chg : Nat} {text : Nat → Nat} {h was eyes : Nat → Int32} {g1 : wS} {rsp rwi val ends : Nat} {rd fw bars ways : Nat → Int32} (hB : bwR cy q1 len span wires chg text h was eyes g1) (K : ∀ (len span wires chg : Nat) (text : Nat → Nat) (h was eyes : Nat → Int32) (g : wS) (rsp rwi val ends : Nat) (rd fw bars ways : Nat → Int32), bwR cy q1 len span wires chg text h was eyes g → AL p l e room_1 s m args below meth c D 4 Q 58 2495 49 q1 g 9 q2 (mdC cy q2 len span wires chg rsp rwi val ends text h was rd eyes fw bars ways) [(0, .ref b), (1, .ref (q1 0)), (2, .ref (q2 0)), (3, .int (nI t))] 783 []) : AL p l e room_1 s m args below meth c D 4 Q 58 2495 49 q1 g1 9 q2 (mdC cy q2 len span wires chg rsp rwi val ends text h was rd eyes fw bars ways) [(0, .ref b), (1, .ref (q1 0)), (2, .ref (q2 0)), (3, .int (nI t))] 210 [] := by
  obtain ⟨dsp, dwi, dat, pnx, vkn, dff, lbl, lsh, lpk, lett, num, lim, now, prw, plr, hgr, bk, bd, wio, wys, trl, clr, tld, tie, fst, las, saw, rfl, S9, Q9⟩ := hB
  have S8 := S9
  obtain ⟨hl, hb, hs, hs2, hw, hc, hO, hW, hK⟩ := S8
  refine al_aload_n C dL_law_210 (i := 1) rfl rfl ?_
  refine al_aload_n C dL_law_211 (i := 0) rfl rfl ?_
  refine al_iload_n C dL_law_212 (i := 3) rfl rfl ?_
  refine al_iconst C dL_law_213 ki_1 ?_
  refine al_iadd C dL_law_214 ?_
  refine al_sld C hX hbl (show t + 1 < L by omega) hL dL_law_215 ?_
  refine al_aload_n C dL_law_216 (i := 0) rfl rfl ?_
  refine al_iload_n C dL_law_217 (i := 3) rfl rfl ?_
  refine al_iconst C dL_law_218 ki_2 ?_
  refine al_iadd C dL_law_219 ?_
  refine al_sld C hX hbl (show t + 2 < L by omega) hL dL_law_220 ?_
  refine al_aload_n C dL_law_221 (i := 0) rfl rfl ?_
  refine al_iload_n C dL_law_222 (i := 3) rfl rfl ?_
  refine al_iconst C dL_law_223 ki_3 ?_
  refine al_iadd C dL_law_224 ?_
  refine al_sld C hX hbl (show t + 3 < L by omega) hL dL_law_225 ?_
  refine al_call (i := 0) (As := [.int (xs (t + 1)), .int (xs (t + 2)), .int (xs (t + 3))]) (As0 := [.int (xs (t + 3)), .int (xs (t + 2)), .int (xs (t + 1))]) (rest := []) C hT dL_law_226 cv_L_31 (cb_set hT.1 S9 Q9) rfl rfl rfl ⟨Nat.le_of_ble_eq_true rfl, Nat.le_of_ble_eq_true rfl⟩ (Nat.le_of_ble_eq_true rfl) ⟨Nat.le_of_ble_eq_true rfl, Nat.le_of_ble_eq_true rfl⟩ (by decide) rfl rfl rfl (fun r9 g9 hp9 => ?_)
  obtain ⟨x1, rfl, rfl, hB9⟩ := hp9
  refine al_sw ?_
  refine al_aload_n C dL_law_229 (i := 2) rfl rfl ?_
  refine al_aload_n C dL_law_230 (i := 0) rfl rfl ?_
  refine al_iload_n C dL_law_231 (i := 3) rfl rfl ?_
  refine al_iconst C dL_law_232 ki_1 ?_
  refine al_iadd C dL_law_233 ?_
  refine al_sld C hX hbl (show t + 1 < L by omega) hL dL_law_234 ?_
  refine al_aload_n C dL_law_235 (i := 0) rfl rfl ?_
  refine al_iload_n C dL_law_236 (i := 3) rfl rfl ?_
  refine al_iconst C dL_law_237 ki_2 ?_
  refine al_iadd C dL_law_238 ?_
  refine al_sld C hX hbl (show t + 2 < L by omega) hL dL_law_239 ?_
  refine al_aload_n C dL_law_240 (i := 0) rfl rfl ?_
  refine al_iload_n C dL_law_241 (i := 3) rfl rfl ?_
  refine al_iconst C dL_law_242 ki_3 ?_
  refine al_iadd C dL_law_243 ?_
  refine al_sld C hX hbl (show t + 3 < L by omega) hL dL_law_244 ?_
  refine al_call (i := 0) (As := [.int (xs (t + 1)), .int (xs (t + 2)), .int (xs (t + 3))]) (As0 := [.int (xs (t + 3)), .int (xs (t + 2)), .int (xs (t + 1))]) (rest := [_]) C hT.sw dL_law_245 cv_L_35 (cm_set hT.2.1 hc hw) rfl rfl rfl ⟨Nat.le_of_ble_eq_true rfl, Nat.le_of_ble_eq_true rfl⟩ (Nat.le_of_ble_eq_true rfl) ⟨Nat.le_of_ble_eq_true rfl, Nat.le_of_ble_eq_true rfl⟩ (by decide) rfl rfl rfl (fun r9 g9 hp9 => ?_)
  obtain ⟨x2, rfl, rfl, rsp, rwi, val, ends, rd, fw, bars, ways, rfl⟩ := hp9
  refine al_sw ?_
  refine al_icmp_eq (tgt := 783) C dL_law_248 (by decide) ?_
  exact K _ _ _ _ _ _ _ _ _ _ _ _ _ _ _ _ _ hB9
set_option maxRecDepth 20000 in
theorem lc_limit {l : Launch} {D : va_G} {cy : Nat → ClassId} {z : Nat → Nat} {sA sV : Nat} {v : Value} {p : Program} {e : Env} {s : State} {m : MethodId} {args : Array Value} {below : List Frame} {meth : Method} {c : Code} {Q : State → Prop} {q1 q2 : Nat → Nat} {b L : Nat} {xs : Nat → Int32} (C : Cn p s m args meth c cL_law 4 RL D cy z sA sV v (fun a => s.heap.size ≤ a)) (hT : Tq s 49 q1 9 q2) (hX : va_X b L xs s s.heap) (hbl : b < s.heap.size) (hL : L ≤ 3072) {t : Nat} (ht : t + 6 ≤ L) {len span wires chg : Nat} {text : Nat → Nat} {h was eyes : Nat → Int32} {g1 : wS} {rsp rwi val ends : Nat} {rd fw bars ways : Nat → Int32} (hB : bwR cy q1 len span wires chg text h was eyes g1) (K : ∀ (len span wires chg : Nat) (text : Nat → Nat) (h was eyes : Nat → Int32) (g : wS) (rsp rwi val ends : Nat) (rd fw bars ways : Nat → Int32), bwR cy q1 len span wires chg text h was eyes g → AL p l e room_1 s m args below meth c D 4 Q 58 2495 49 q1 g 9 q2 (mdC cy q2 len span wires chg rsp rwi val ends text h was rd eyes fw bars ways) [(0, .ref b), (1, .ref (q1 0)), (2, .ref (q2 0)), (3, .int (nI t))] 783 []) : AL p l e room_1 s m args below meth c D 4 Q 58 2495 49 q1 g1 9 q2 (mdC cy q2 len span wires chg rsp rwi val ends text h was rd eyes fw bars ways) [(0, .ref b), (1, .ref (q1 0)), (2, .ref (q2 0)), (3, .int (nI t))] 253 [] := by
  obtain ⟨dsp, dwi, dat, pnx, vkn, dff, lbl, lsh, lpk, lett, num, lim, now, prw, plr, hgr, bk, bd, wio, wys, trl, clr, tld, tie, fst, las, saw, rfl, S9, Q9⟩ := hB
  have S8 := S9
  obtain ⟨hl, hb, hs, hs2, hw, hc, hO, hW, hK⟩ := S8
  refine al_aload_n C dL_law_253 (i := 1) rfl rfl ?_
  refine al_aload_n C dL_law_254 (i := 0) rfl rfl ?_
  refine al_iload_n C dL_law_255 (i := 3) rfl rfl ?_
  refine al_iconst C dL_law_256 ki_1 ?_
  refine al_iadd C dL_law_257 ?_
  refine al_sld C hX hbl (show t + 1 < L by omega) hL dL_law_258 ?_
  refine al_aload_n C dL_law_259 (i := 0) rfl rfl ?_
  refine al_iload_n C dL_law_260 (i := 3) rfl rfl ?_
  refine al_iconst C dL_law_261 ki_2 ?_
  refine al_iadd C dL_law_262 ?_
  refine al_sld C hX hbl (show t + 2 < L by omega) hL dL_law_263 ?_
  refine al_call (i := 0) (As := [.int (xs (t + 1)), .int (xs (t + 2))]) (As0 := [.int (xs (t + 2)), .int (xs (t + 1))]) (rest := []) C hT dL_law_264 cv_L_36 (cb_limit hT.1 S9 Q9) rfl rfl rfl ⟨Nat.le_of_ble_eq_true rfl, Nat.le_of_ble_eq_true rfl⟩ (Nat.le_of_ble_eq_true rfl) ⟨Nat.le_of_ble_eq_true rfl, Nat.le_of_ble_eq_true rfl⟩ (by decide) rfl rfl rfl (fun r9 g9 hp9 => ?_)
  obtain ⟨x1, rfl, rfl, hB9⟩ := hp9
  refine al_sw ?_
  refine al_aload_n C dL_law_267 (i := 2) rfl rfl ?_
  refine al_aload_n C dL_law_268 (i := 0) rfl rfl ?_
  refine al_iload_n C dL_law_269 (i := 3) rfl rfl ?_
  refine al_iconst C dL_law_270 ki_1 ?_
  refine al_iadd C dL_law_271 ?_
  refine al_sld C hX hbl (show t + 1 < L by omega) hL dL_law_272 ?_
  refine al_aload_n C dL_law_273 (i := 0) rfl rfl ?_
  refine al_iload_n C dL_law_274 (i := 3) rfl rfl ?_
  refine al_iconst C dL_law_275 ki_2 ?_
  refine al_iadd C dL_law_276 ?_
  refine al_sld C hX hbl (show t + 2 < L by omega) hL dL_law_277 ?_
  refine al_call (i := 0) (As := [.int (xs (t + 1)), .int (xs (t + 2))]) (As0 := [.int (xs (t + 2)), .int (xs (t + 1))]) (rest := [_]) C hT.sw dL_law_278 cv_L_40 (cm_limit hT.2.1 hc) rfl rfl rfl ⟨Nat.le_of_ble_eq_true rfl, Nat.le_of_ble_eq_true rfl⟩ (Nat.le_of_ble_eq_true rfl) ⟨Nat.le_of_ble_eq_true rfl, Nat.le_of_ble_eq_true rfl⟩ (by decide) rfl rfl rfl (fun r9 g9 hp9 => ?_)
  obtain ⟨x2, rfl, rfl, rsp, rwi, val, ends, rd, fw, bars, ways, rfl⟩ := hp9
  refine al_sw ?_
  refine al_icmp_eq (tgt := 783) C dL_law_281 (by decide) ?_
  exact K _ _ _ _ _ _ _ _ _ _ _ _ _ _ _ _ _ hB9
set_option maxRecDepth 20000 in
theorem lc_shift {l : Launch} {D : va_G} {cy : Nat → ClassId} {z : Nat → Nat} {sA sV : Nat} {v : Value} {p : Program} {e : Env} {s : State} {m : MethodId} {args : Array Value} {below : List Frame} {meth : Method} {c : Code} {Q : State → Prop} {q1 q2 : Nat → Nat} {b L : Nat} {xs : Nat → Int32} (C : Cn p s m args meth c cL_law 4 RL D cy z sA sV v (fun a => s.heap.size ≤ a)) (hT : Tq s 49 q1 9 q2) (hX : va_X b L xs s s.heap) (hbl : b < s.heap.size) (hL : L ≤ 3072) {t : Nat} (ht : t + 6 ≤ L) {len span wires chg : Nat} {text : Nat → Nat} {h was eyes : Nat → Int32} {g1 : wS} {rsp rwi val ends : Nat} {rd fw bars ways : Nat → Int32} (hB : bwR cy q1 len span wires chg text h was eyes g1) (K : ∀ (len span wires chg : Nat) (text : Nat → Nat) (h was eyes : Nat → Int32) (g : wS) (rsp rwi val ends : Nat) (rd fw bars ways : Nat → Int32), bwR cy q1 len span wires chg text h was eyes g → AL p l e room_1 s m args below meth c D 4 Q 58 2495 49 q1 g 9 q2 (mdC cy q2 len span wires chg rsp rwi val ends text h was rd eyes fw bars ways) [(0, .ref b), (1, .ref (q1 0)), (2, .ref (q2 0)), (3, .int (nI t))] 783 []) : AL p l e room_1 s m args below meth c D 4 Q 58 2495 49 q1 g1 9 q2 (mdC cy q2 len span wires chg rsp rwi val ends text h was rd eyes fw bars ways) [(0, .ref b), (1, .ref (q1 0)), (2, .ref (q2 0)), (3, .int (nI t))] 286 [] := by
  obtain ⟨dsp, dwi, dat, pnx, vkn, dff, lbl, lsh, lpk, lett, num, lim, now, prw, plr, hgr, bk, bd, wio, wys, trl, clr, tld, tie, fst, las, saw, rfl, S9, Q9⟩ := hB
  have S8 := S9
  obtain ⟨hl, hb, hs, hs2, hw, hc, hO, hW, hK⟩ := S8
  refine al_aload_n C dL_law_286 (i := 1) rfl rfl ?_
  refine al_aload_n C dL_law_287 (i := 0) rfl rfl ?_
  refine al_iload_n C dL_law_288 (i := 3) rfl rfl ?_
  refine al_iconst C dL_law_289 ki_1 ?_
  refine al_iadd C dL_law_290 ?_
  refine al_sld C hX hbl (show t + 1 < L by omega) hL dL_law_291 ?_
  refine al_call (i := 0) (As := [.int (xs (t + 1))]) (As0 := [.int (xs (t + 1))]) (rest := []) C hT dL_law_292 cv_L_41 (cb_shift hT.1 S9 Q9) rfl rfl rfl ⟨Nat.le_of_ble_eq_true rfl, Nat.le_of_ble_eq_true rfl⟩ (Nat.le_of_ble_eq_true rfl) ⟨Nat.le_of_ble_eq_true rfl, Nat.le_of_ble_eq_true rfl⟩ (by decide) rfl rfl rfl (fun r9 g9 hp9 => ?_)
  obtain ⟨x1, rfl, rfl, hB9⟩ := hp9
  refine al_sw ?_
  refine al_aload_n C dL_law_295 (i := 2) rfl rfl ?_
  refine al_aload_n C dL_law_296 (i := 0) rfl rfl ?_
  refine al_iload_n C dL_law_297 (i := 3) rfl rfl ?_
  refine al_iconst C dL_law_298 ki_1 ?_
  refine al_iadd C dL_law_299 ?_
  refine al_sld C hX hbl (show t + 1 < L by omega) hL dL_law_300 ?_
  refine al_call (i := 0) (As := [.int (xs (t + 1))]) (As0 := [.int (xs (t + 1))]) (rest := [_]) C hT.sw dL_law_301 cv_L_44 (cm_shift hT.2.1 hc) rfl rfl rfl ⟨Nat.le_of_ble_eq_true rfl, Nat.le_of_ble_eq_true rfl⟩ (Nat.le_of_ble_eq_true rfl) ⟨Nat.le_of_ble_eq_true rfl, Nat.le_of_ble_eq_true rfl⟩ (by decide) rfl rfl rfl (fun r9 g9 hp9 => ?_)
  obtain ⟨x2, rfl, rfl, rsp, rwi, val, ends, rd, fw, bars, ways, rfl⟩ := hp9
  refine al_sw ?_
  refine al_icmp_eq (tgt := 783) C dL_law_304 (by decide) ?_
  exact K _ _ _ _ _ _ _ _ _ _ _ _ _ _ _ _ _ hB9
set_option maxRecDepth 20000 in
theorem lc_undo {l : Launch} {D : va_G} {cy : Nat → ClassId} {z : Nat → Nat} {sA sV : Nat} {v : Value} {p : Program} {e : Env} {s : State} {m : MethodId} {args : Array Value} {below : List Frame} {meth : Method} {c : Code} {Q : State → Prop} {q1 q2 : Nat → Nat} {b L : Nat} {xs : Nat → Int32} (C : Cn p s m args meth c cL_law 4 RL D cy z sA sV v (fun a => s.heap.size ≤ a)) (hT : Tq s 49 q1 9 q2) (hX : va_X b L xs s s.heap) (hbl : b < s.heap.size) (hL : L ≤ 3072) {t : Nat} (ht : t + 6 ≤ L) {len span wires chg : Nat} {text : Nat → Nat} {h was eyes : Nat → Int32} {g1 : wS} {rsp rwi val ends : Nat} {rd fw bars ways : Nat → Int32} (hB : bwR cy q1 len span wires chg text h was eyes g1) (K : ∀ (len span wires chg : Nat) (text : Nat → Nat) (h was eyes : Nat → Int32) (g : wS) (rsp rwi val ends : Nat) (rd fw bars ways : Nat → Int32), bwR cy q1 len span wires chg text h was eyes g → AL p l e room_1 s m args below meth c D 4 Q 58 2495 49 q1 g 9 q2 (mdC cy q2 len span wires chg rsp rwi val ends text h was rd eyes fw bars ways) [(0, .ref b), (1, .ref (q1 0)), (2, .ref (q2 0)), (3, .int (nI t))] 783 []) : AL p l e room_1 s m args below meth c D 4 Q 58 2495 49 q1 g1 9 q2 (mdC cy q2 len span wires chg rsp rwi val ends text h was rd eyes fw bars ways) [(0, .ref b), (1, .ref (q1 0)), (2, .ref (q2 0)), (3, .int (nI t))] 309 [] := by
  obtain ⟨dsp, dwi, dat, pnx, vkn, dff, lbl, lsh, lpk, lett, num, lim, now, prw, plr, hgr, bk, bd, wio, wys, trl, clr, tld, tie, fst, las, saw, rfl, S9, Q9⟩ := hB
  have S8 := S9
  obtain ⟨hl, hb, hs, hs2, hw, hc, hO, hW, hK⟩ := S8
  refine al_aload_n C dL_law_309 (i := 1) rfl rfl ?_
  refine al_call (i := 0) (As := []) (As0 := []) (rest := []) C hT dL_law_310 cv_L_45 (cb_undo hT.1 S9 Q9) rfl rfl rfl ⟨Nat.le_of_ble_eq_true rfl, Nat.le_of_ble_eq_true rfl⟩ (Nat.le_of_ble_eq_true rfl) ⟨Nat.le_of_ble_eq_true rfl, Nat.le_of_ble_eq_true rfl⟩ (by decide) rfl rfl rfl (fun r9 g9 hp9 => ?_)
  obtain ⟨x1, rfl, rfl, hB9⟩ := hp9
  refine al_sw ?_
  refine al_aload_n C dL_law_313 (i := 2) rfl rfl ?_
  refine al_call (i := 0) (As := []) (As0 := []) (rest := [_]) C hT.sw dL_law_314 cv_L_48 (cm_undo hT.2.1 hc) rfl rfl rfl ⟨Nat.le_of_ble_eq_true rfl, Nat.le_of_ble_eq_true rfl⟩ (Nat.le_of_ble_eq_true rfl) ⟨Nat.le_of_ble_eq_true rfl, Nat.le_of_ble_eq_true rfl⟩ (by decide) rfl rfl rfl (fun r9 g9 hp9 => ?_)
  obtain ⟨x2, rfl, rfl, rsp, rwi, val, ends, rd, fw, bars, ways, rfl⟩ := hp9
  refine al_sw ?_
  refine al_icmp_eq (tgt := 783) C dL_law_317 (by decide) ?_
  exact K _ _ _ _ _ _ _ _ _ _ _ _ _ _ _ _ _ hB9
set_option maxRecDepth 20000 in
theorem lc_wire {l : Launch} {D : va_G} {cy : Nat → ClassId} {z : Nat → Nat} {sA sV : Nat} {v : Value} {p : Program} {e : Env} {s : State} {m : MethodId} {args : Array Value} {below : List Frame} {meth : Method} {c : Code} {Q : State → Prop} {q1 q2 : Nat → Nat} {b L : Nat} {xs : Nat → Int32} (C : Cn p s m args meth c cL_law 4 RL D cy z sA sV v (fun a => s.heap.size ≤ a)) (hT : Tq s 49 q1 9 q2) (hX : va_X b L xs s s.heap) (hbl : b < s.heap.size) (hL : L ≤ 3072) {t : Nat} (ht : t + 6 ≤ L) {len span wires chg : Nat} {text : Nat → Nat} {h was eyes : Nat → Int32} {g1 : wS} {rsp rwi val ends : Nat} {rd fw bars ways : Nat → Int32} (hB : bwR cy q1 len span wires chg text h was eyes g1) (K : ∀ (len span wires chg : Nat) (text : Nat → Nat) (h was eyes : Nat → Int32) (g : wS) (rsp rwi val ends : Nat) (rd fw bars ways : Nat → Int32), bwR cy q1 len span wires chg text h was eyes g → AL p l e room_1 s m args below meth c D 4 Q 58 2495 49 q1 g 9 q2 (mdC cy q2 len span wires chg rsp rwi val ends text h was rd eyes fw bars ways) [(0, .ref b), (1, .ref (q1 0)), (2, .ref (q2 0)), (3, .int (nI t))] 783 []) : AL p l e room_1 s m args below meth c D 4 Q 58 2495 49 q1 g1 9 q2 (mdC cy q2 len span wires chg rsp rwi val ends text h was rd eyes fw bars ways) [(0, .ref b), (1, .ref (q1 0)), (2, .ref (q2 0)), (3, .int (nI t))] 322 [] := by
  obtain ⟨dsp, dwi, dat, pnx, vkn, dff, lbl, lsh, lpk, lett, num, lim, now, prw, plr, hgr, bk, bd, wio, wys, trl, clr, tld, tie, fst, las, saw, rfl, S9, Q9⟩ := hB
  have S8 := S9
  obtain ⟨hl, hb, hs, hs2, hw, hc, hO, hW, hK⟩ := S8
  refine al_aload_n C dL_law_322 (i := 1) rfl rfl ?_
  refine al_aload_n C dL_law_323 (i := 0) rfl rfl ?_
  refine al_iload_n C dL_law_324 (i := 3) rfl rfl ?_
  refine al_iconst C dL_law_325 ki_1 ?_
  refine al_iadd C dL_law_326 ?_
  refine al_sld C hX hbl (show t + 1 < L by omega) hL dL_law_327 ?_
  refine al_aload_n C dL_law_328 (i := 0) rfl rfl ?_
  refine al_iload_n C dL_law_329 (i := 3) rfl rfl ?_
  refine al_iconst C dL_law_330 ki_2 ?_
  refine al_iadd C dL_law_331 ?_
  refine al_sld C hX hbl (show t + 2 < L by omega) hL dL_law_332 ?_
  refine al_call (i := 0) (As := [.int (xs (t + 1)), .int (xs (t + 2))]) (As0 := [.int (xs (t + 2)), .int (xs (t + 1))]) (rest := []) C hT dL_law_333 cv_L_49 (cb_wire hT.1 S9 Q9) rfl rfl rfl ⟨Nat.le_of_ble_eq_true rfl, Nat.le_of_ble_eq_true rfl⟩ (Nat.le_of_ble_eq_true rfl) ⟨Nat.le_of_ble_eq_true rfl, Nat.le_of_ble_eq_true rfl⟩ (by decide) rfl rfl rfl (fun r9 g9 hp9 => ?_)
  obtain ⟨x1, rfl, rfl, hB9⟩ := hp9
  refine al_sw ?_
  refine al_aload_n C dL_law_336 (i := 2) rfl rfl ?_
  refine al_aload_n C dL_law_337 (i := 0) rfl rfl ?_
  refine al_iload_n C dL_law_338 (i := 3) rfl rfl ?_
  refine al_iconst C dL_law_339 ki_1 ?_
  refine al_iadd C dL_law_340 ?_
  refine al_sld C hX hbl (show t + 1 < L by omega) hL dL_law_341 ?_
  refine al_aload_n C dL_law_342 (i := 0) rfl rfl ?_
  refine al_iload_n C dL_law_343 (i := 3) rfl rfl ?_
  refine al_iconst C dL_law_344 ki_2 ?_
  refine al_iadd C dL_law_345 ?_
  refine al_sld C hX hbl (show t + 2 < L by omega) hL dL_law_346 ?_
  refine al_call (i := 0) (As := [.int (xs (t + 1)), .int (xs (t + 2))]) (As0 := [.int (xs (t + 2)), .int (xs (t + 1))]) (rest := [_]) C hT.sw dL_law_347 cv_L_52 (cm_wire hT.2.1 hs hs2 hw) rfl rfl rfl ⟨Nat.le_of_ble_eq_true rfl, Nat.le_of_ble_eq_true rfl⟩ (Nat.le_of_ble_eq_true rfl) ⟨Nat.le_of_ble_eq_true rfl, Nat.le_of_ble_eq_true rfl⟩ (by decide) rfl rfl rfl (fun r9 g9 hp9 => ?_)
  obtain ⟨rfl, rfl⟩ := hp9
  refine al_sw ?_
  refine al_icmp_eq (tgt := 783) C dL_law_350 (by decide) ?_
  exact K _ _ _ _ _ _ _ _ _ _ _ _ _ _ _ _ _ hB9
set_option maxRecDepth 20000 in
theorem lc_place {l : Launch} {D : va_G} {cy : Nat → ClassId} {z : Nat → Nat} {sA sV : Nat} {v : Value} {p : Program} {e : Env} {s : State} {m : MethodId} {args : Array Value} {below : List Frame} {meth : Method} {c : Code} {Q : State → Prop} {q1 q2 : Nat → Nat} {b L : Nat} {xs : Nat → Int32} (C : Cn p s m args meth c cL_law 4 RL D cy z sA sV v (fun a => s.heap.size ≤ a)) (hT : Tq s 49 q1 9 q2) (hX : va_X b L xs s s.heap) (hbl : b < s.heap.size) (hL : L ≤ 3072) {t : Nat} (ht : t + 6 ≤ L) {len span wires chg : Nat} {text : Nat → Nat} {h was eyes : Nat → Int32} {g1 : wS} {rsp rwi val ends : Nat} {rd fw bars ways : Nat → Int32} (hB : bwR cy q1 len span wires chg text h was eyes g1) (K : ∀ (len span wires chg : Nat) (text : Nat → Nat) (h was eyes : Nat → Int32) (g : wS) (rsp rwi val ends : Nat) (rd fw bars ways : Nat → Int32), bwR cy q1 len span wires chg text h was eyes g → AL p l e room_1 s m args below meth c D 4 Q 58 2495 49 q1 g 9 q2 (mdC cy q2 len span wires chg rsp rwi val ends text h was rd eyes fw bars ways) [(0, .ref b), (1, .ref (q1 0)), (2, .ref (q2 0)), (3, .int (nI t))] 783 []) : AL p l e room_1 s m args below meth c D 4 Q 58 2495 49 q1 g1 9 q2 (mdC cy q2 len span wires chg rsp rwi val ends text h was rd eyes fw bars ways) [(0, .ref b), (1, .ref (q1 0)), (2, .ref (q2 0)), (3, .int (nI t))] 355 [] := by
  obtain ⟨dsp, dwi, dat, pnx, vkn, dff, lbl, lsh, lpk, lett, num, lim, now, prw, plr, hgr, bk, bd, wio, wys, trl, clr, tld, tie, fst, las, saw, rfl, S9, Q9⟩ := hB
  have S8 := S9
  obtain ⟨hl, hb, hs, hs2, hw, hc, hO, hW, hK⟩ := S8
  refine al_aload_n C dL_law_355 (i := 1) rfl rfl ?_
  refine al_aload_n C dL_law_356 (i := 0) rfl rfl ?_
  refine al_iload_n C dL_law_357 (i := 3) rfl rfl ?_
  refine al_iconst C dL_law_358 ki_1 ?_
  refine al_iadd C dL_law_359 ?_
  refine al_sld C hX hbl (show t + 1 < L by omega) hL dL_law_360 ?_
  refine al_aload_n C dL_law_361 (i := 0) rfl rfl ?_
  refine al_iload_n C dL_law_362 (i := 3) rfl rfl ?_
  refine al_iconst C dL_law_363 ki_2 ?_
  refine al_iadd C dL_law_364 ?_
  refine al_sld C hX hbl (show t + 2 < L by omega) hL dL_law_365 ?_
  refine al_call (i := 0) (As := [.int (xs (t + 1)), .int (xs (t + 2))]) (As0 := [.int (xs (t + 2)), .int (xs (t + 1))]) (rest := []) C hT dL_law_366 cv_L_53 (cb_place hT.1 S9 Q9) rfl rfl rfl ⟨Nat.le_of_ble_eq_true rfl, Nat.le_of_ble_eq_true rfl⟩ (Nat.le_of_ble_eq_true rfl) ⟨Nat.le_of_ble_eq_true rfl, Nat.le_of_ble_eq_true rfl⟩ (by decide) rfl rfl rfl (fun r9 g9 hp9 => ?_)
  obtain ⟨x1, rfl, rfl, hB9⟩ := hp9
  refine al_sw ?_
  refine al_aload_n C dL_law_369 (i := 2) rfl rfl ?_
  refine al_aload_n C dL_law_370 (i := 0) rfl rfl ?_
  refine al_iload_n C dL_law_371 (i := 3) rfl rfl ?_
  refine al_iconst C dL_law_372 ki_1 ?_
  refine al_iadd C dL_law_373 ?_
  refine al_sld C hX hbl (show t + 1 < L by omega) hL dL_law_374 ?_
  refine al_aload_n C dL_law_375 (i := 0) rfl rfl ?_
  refine al_iload_n C dL_law_376 (i := 3) rfl rfl ?_
  refine al_iconst C dL_law_377 ki_2 ?_
  refine al_iadd C dL_law_378 ?_
  refine al_sld C hX hbl (show t + 2 < L by omega) hL dL_law_379 ?_
  refine al_call (i := 0) (As := [.int (xs (t + 1)), .int (xs (t + 2))]) (As0 := [.int (xs (t + 2)), .int (xs (t + 1))]) (rest := [_]) C hT.sw dL_law_380 cv_L_56 (cm_place hT.2.1 hs hs2 hw) rfl rfl rfl ⟨Nat.le_of_ble_eq_true rfl, Nat.le_of_ble_eq_true rfl⟩ (Nat.le_of_ble_eq_true rfl) ⟨Nat.le_of_ble_eq_true rfl, Nat.le_of_ble_eq_true rfl⟩ (by decide) rfl rfl rfl (fun r9 g9 hp9 => ?_)
  obtain ⟨rfl, rfl⟩ := hp9
  refine al_sw ?_
  refine al_icmp_eq (tgt := 783) C dL_law_383 (by decide) ?_
  exact K _ _ _ _ _ _ _ _ _ _ _ _ _ _ _ _ _ hB9
set_option maxRecDepth 20000 in
theorem lc_height {l : Launch} {D : va_G} {cy : Nat → ClassId} {z : Nat → Nat} {sA sV : Nat} {v : Value} {p : Program} {e : Env} {s : State} {m : MethodId} {args : Array Value} {below : List Frame} {meth : Method} {c : Code} {Q : State → Prop} {q1 q2 : Nat → Nat} {b L : Nat} {xs : Nat → Int32} (C : Cn p s m args meth c cL_law 4 RL D cy z sA sV v (fun a => s.heap.size ≤ a)) (hT : Tq s 49 q1 9 q2) (hX : va_X b L xs s s.heap) (hbl : b < s.heap.size) (hL : L ≤ 3072) {t : Nat} (ht : t + 6 ≤ L) {len span wires chg : Nat} {text : Nat → Nat} {h was eyes : Nat → Int32} {g1 : wS} {rsp rwi val ends : Nat} {rd fw bars ways : Nat → Int32} (hB : bwR cy q1 len span wires chg text h was eyes g1) (K : ∀ (len span wires chg : Nat) (text : Nat → Nat) (h was eyes : Nat → Int32) (g : wS) (rsp rwi val ends : Nat) (rd fw bars ways : Nat → Int32), bwR cy q1 len span wires chg text h was eyes g → AL p l e room_1 s m args below meth c D 4 Q 58 2495 49 q1 g 9 q2 (mdC cy q2 len span wires chg rsp rwi val ends text h was rd eyes fw bars ways) [(0, .ref b), (1, .ref (q1 0)), (2, .ref (q2 0)), (3, .int (nI t))] 783 []) : AL p l e room_1 s m args below meth c D 4 Q 58 2495 49 q1 g1 9 q2 (mdC cy q2 len span wires chg rsp rwi val ends text h was rd eyes fw bars ways) [(0, .ref b), (1, .ref (q1 0)), (2, .ref (q2 0)), (3, .int (nI t))] 388 [] := by
  obtain ⟨dsp, dwi, dat, pnx, vkn, dff, lbl, lsh, lpk, lett, num, lim, now, prw, plr, hgr, bk, bd, wio, wys, trl, clr, tld, tie, fst, las, saw, rfl, S9, Q9⟩ := hB
  have S8 := S9
  obtain ⟨hl, hb, hs, hs2, hw, hc, hO, hW, hK⟩ := S8
  refine al_aload_n C dL_law_388 (i := 1) rfl rfl ?_
  refine al_aload_n C dL_law_389 (i := 0) rfl rfl ?_
  refine al_iload_n C dL_law_390 (i := 3) rfl rfl ?_
  refine al_iconst C dL_law_391 ki_1 ?_
  refine al_iadd C dL_law_392 ?_
  refine al_sld C hX hbl (show t + 1 < L by omega) hL dL_law_393 ?_
  refine al_aload_n C dL_law_394 (i := 0) rfl rfl ?_
  refine al_iload_n C dL_law_395 (i := 3) rfl rfl ?_
  refine al_iconst C dL_law_396 ki_2 ?_
  refine al_iadd C dL_law_397 ?_
  refine al_sld C hX hbl (show t + 2 < L by omega) hL dL_law_398 ?_
  refine al_call (i := 0) (As := [.int (xs (t + 1)), .int (xs (t + 2))]) (As0 := [.int (xs (t + 2)), .int (xs (t + 1))]) (rest := []) C hT dL_law_399 cv_L_57 (cb_height hT.1 S9 Q9) rfl rfl rfl ⟨Nat.le_of_ble_eq_true rfl, Nat.le_of_ble_eq_true rfl⟩ (Nat.le_of_ble_eq_true rfl) ⟨Nat.le_of_ble_eq_true rfl, Nat.le_of_ble_eq_true rfl⟩ (by decide) rfl rfl rfl (fun r9 g9 hp9 => ?_)
  obtain ⟨x1, rfl, rfl, hB9⟩ := hp9
  refine al_sw ?_
  refine al_aload_n C dL_law_402 (i := 2) rfl rfl ?_
  refine al_aload_n C dL_law_403 (i := 0) rfl rfl ?_
  refine al_iload_n C dL_law_404 (i := 3) rfl rfl ?_
  refine al_iconst C dL_law_405 ki_1 ?_
  refine al_iadd C dL_law_406 ?_
  refine al_sld C hX hbl (show t + 1 < L by omega) hL dL_law_407 ?_
  refine al_aload_n C dL_law_408 (i := 0) rfl rfl ?_
  refine al_iload_n C dL_law_409 (i := 3) rfl rfl ?_
  refine al_iconst C dL_law_410 ki_2 ?_
  refine al_iadd C dL_law_411 ?_
  refine al_sld C hX hbl (show t + 2 < L by omega) hL dL_law_412 ?_
  refine al_call (i := 0) (As := [.int (xs (t + 1)), .int (xs (t + 2))]) (As0 := [.int (xs (t + 2)), .int (xs (t + 1))]) (rest := [_]) C hT.sw dL_law_413 cv_L_60 (cm_height hT.2.1 hs hs2 hw) rfl rfl rfl ⟨Nat.le_of_ble_eq_true rfl, Nat.le_of_ble_eq_true rfl⟩ (Nat.le_of_ble_eq_true rfl) ⟨Nat.le_of_ble_eq_true rfl, Nat.le_of_ble_eq_true rfl⟩ (by decide) rfl rfl rfl (fun r9 g9 hp9 => ?_)
  obtain ⟨rfl, rfl⟩ := hp9
  refine al_sw ?_
  refine al_icmp_eq (tgt := 783) C dL_law_416 (by decide) ?_
  exact K _ _ _ _ _ _ _ _ _ _ _ _ _ _ _ _ _ hB9
set_option maxRecDepth 20000 in
theorem lc_pair {l : Launch} {D : va_G} {cy : Nat → ClassId} {z : Nat → Nat} {sA sV : Nat} {v : Value} {p : Program} {e : Env} {s : State} {m : MethodId} {args : Array Value} {below : List Frame} {meth : Method} {c : Code} {Q : State → Prop} {q1 q2 : Nat → Nat} {b L : Nat} {xs : Nat → Int32} (C : Cn p s m args meth c cL_law 4 RL D cy z sA sV v (fun a => s.heap.size ≤ a)) (hT : Tq s 49 q1 9 q2) (hX : va_X b L xs s s.heap) (hbl : b < s.heap.size) (hL : L ≤ 3072) {t : Nat} (ht : t + 6 ≤ L) {len span wires chg : Nat} {text : Nat → Nat} {h was eyes : Nat → Int32} {g1 : wS} {rsp rwi val ends : Nat} {rd fw bars ways : Nat → Int32} (hB : bwR cy q1 len span wires chg text h was eyes g1) (K : ∀ (len span wires chg : Nat) (text : Nat → Nat) (h was eyes : Nat → Int32) (g : wS) (rsp rwi val ends : Nat) (rd fw bars ways : Nat → Int32), bwR cy q1 len span wires chg text h was eyes g → AL p l e room_1 s m args below meth c D 4 Q 58 2495 49 q1 g 9 q2 (mdC cy q2 len span wires chg rsp rwi val ends text h was rd eyes fw bars ways) [(0, .ref b), (1, .ref (q1 0)), (2, .ref (q2 0)), (3, .int (nI t))] 783 []) : AL p l e room_1 s m args below meth c D 4 Q 58 2495 49 q1 g1 9 q2 (mdC cy q2 len span wires chg rsp rwi val ends text h was rd eyes fw bars ways) [(0, .ref b), (1, .ref (q1 0)), (2, .ref (q2 0)), (3, .int (nI t))] 421 [] := by
  obtain ⟨dsp, dwi, dat, pnx, vkn, dff, lbl, lsh, lpk, lett, num, lim, now, prw, plr, hgr, bk, bd, wio, wys, trl, clr, tld, tie, fst, las, saw, rfl, S9, Q9⟩ := hB
  have S8 := S9
  obtain ⟨hl, hb, hs, hs2, hw, hc, hO, hW, hK⟩ := S8
  refine al_aload_n C dL_law_421 (i := 1) rfl rfl ?_
  refine al_aload_n C dL_law_422 (i := 0) rfl rfl ?_
  refine al_iload_n C dL_law_423 (i := 3) rfl rfl ?_
  refine al_iconst C dL_law_424 ki_1 ?_
  refine al_iadd C dL_law_425 ?_
  refine al_sld C hX hbl (show t + 1 < L by omega) hL dL_law_426 ?_
  refine al_aload_n C dL_law_427 (i := 0) rfl rfl ?_
  refine al_iload_n C dL_law_428 (i := 3) rfl rfl ?_
  refine al_iconst C dL_law_429 ki_2 ?_
  refine al_iadd C dL_law_430 ?_
  refine al_sld C hX hbl (show t + 2 < L by omega) hL dL_law_431 ?_
  refine al_aload_n C dL_law_432 (i := 0) rfl rfl ?_
  refine al_iload_n C dL_law_433 (i := 3) rfl rfl ?_
  refine al_iconst C dL_law_434 ki_3 ?_
  refine al_iadd C dL_law_435 ?_
  refine al_sld C hX hbl (show t + 3 < L by omega) hL dL_law_436 ?_
  refine al_call (i := 0) (As := [.int (xs (t + 1)), .int (xs (t + 2)), .int (xs (t + 3))]) (As0 := [.int (xs (t + 3)), .int (xs (t + 2)), .int (xs (t + 1))]) (rest := []) C hT dL_law_437 cv_L_61 (cb_pair hT.1 S9 Q9) rfl rfl rfl ⟨Nat.le_of_ble_eq_true rfl, Nat.le_of_ble_eq_true rfl⟩ (Nat.le_of_ble_eq_true rfl) ⟨Nat.le_of_ble_eq_true rfl, Nat.le_of_ble_eq_true rfl⟩ (by decide) rfl rfl rfl (fun r9 g9 hp9 => ?_)
  obtain ⟨x1, rfl, rfl, hB9⟩ := hp9
  refine al_sw ?_
  refine al_aload_n C dL_law_440 (i := 2) rfl rfl ?_
  refine al_aload_n C dL_law_441 (i := 0) rfl rfl ?_
  refine al_iload_n C dL_law_442 (i := 3) rfl rfl ?_
  refine al_iconst C dL_law_443 ki_1 ?_
  refine al_iadd C dL_law_444 ?_
  refine al_sld C hX hbl (show t + 1 < L by omega) hL dL_law_445 ?_
  refine al_aload_n C dL_law_446 (i := 0) rfl rfl ?_
  refine al_iload_n C dL_law_447 (i := 3) rfl rfl ?_
  refine al_iconst C dL_law_448 ki_2 ?_
  refine al_iadd C dL_law_449 ?_
  refine al_sld C hX hbl (show t + 2 < L by omega) hL dL_law_450 ?_
  refine al_aload_n C dL_law_451 (i := 0) rfl rfl ?_
  refine al_iload_n C dL_law_452 (i := 3) rfl rfl ?_
  refine al_iconst C dL_law_453 ki_3 ?_
  refine al_iadd C dL_law_454 ?_
  refine al_sld C hX hbl (show t + 3 < L by omega) hL dL_law_455 ?_
  refine al_call (i := 0) (As := [.int (xs (t + 1)), .int (xs (t + 2)), .int (xs (t + 3))]) (As0 := [.int (xs (t + 3)), .int (xs (t + 2)), .int (xs (t + 1))]) (rest := [_]) C hT.sw dL_law_456 cv_L_64 (cm_pair hT.2.1 hs hs2 hw) rfl rfl rfl ⟨Nat.le_of_ble_eq_true rfl, Nat.le_of_ble_eq_true rfl⟩ (Nat.le_of_ble_eq_true rfl) ⟨Nat.le_of_ble_eq_true rfl, Nat.le_of_ble_eq_true rfl⟩ (by decide) rfl rfl rfl (fun r9 g9 hp9 => ?_)
  obtain ⟨rfl, rfl⟩ := hp9
  refine al_sw ?_
  refine al_icmp_eq (tgt := 783) C dL_law_459 (by decide) ?_
  exact K _ _ _ _ _ _ _ _ _ _ _ _ _ _ _ _ _ hB9
set_option maxRecDepth 20000 in
theorem lc_bond {l : Launch} {D : va_G} {cy : Nat → ClassId} {z : Nat → Nat} {sA sV : Nat} {v : Value} {p : Program} {e : Env} {s : State} {m : MethodId} {args : Array Value} {below : List Frame} {meth : Method} {c : Code} {Q : State → Prop} {q1 q2 : Nat → Nat} {b L : Nat} {xs : Nat → Int32} (C : Cn p s m args meth c cL_law 4 RL D cy z sA sV v (fun a => s.heap.size ≤ a)) (hT : Tq s 49 q1 9 q2) (hX : va_X b L xs s s.heap) (hbl : b < s.heap.size) (hL : L ≤ 3072) {t : Nat} (ht : t + 6 ≤ L) {len span wires chg : Nat} {text : Nat → Nat} {h was eyes : Nat → Int32} {g1 : wS} {rsp rwi val ends : Nat} {rd fw bars ways : Nat → Int32} (hB : bwR cy q1 len span wires chg text h was eyes g1) (K : ∀ (len span wires chg : Nat) (text : Nat → Nat) (h was eyes : Nat → Int32) (g : wS) (rsp rwi val ends : Nat) (rd fw bars ways : Nat → Int32), bwR cy q1 len span wires chg text h was eyes g → AL p l e room_1 s m args below meth c D 4 Q 58 2495 49 q1 g 9 q2 (mdC cy q2 len span wires chg rsp rwi val ends text h was rd eyes fw bars ways) [(0, .ref b), (1, .ref (q1 0)), (2, .ref (q2 0)), (3, .int (nI t))] 783 []) : AL p l e room_1 s m args below meth c D 4 Q 58 2495 49 q1 g1 9 q2 (mdC cy q2 len span wires chg rsp rwi val ends text h was rd eyes fw bars ways) [(0, .ref b), (1, .ref (q1 0)), (2, .ref (q2 0)), (3, .int (nI t))] 464 [] := by
  obtain ⟨dsp, dwi, dat, pnx, vkn, dff, lbl, lsh, lpk, lett, num, lim, now, prw, plr, hgr, bk, bd, wio, wys, trl, clr, tld, tie, fst, las, saw, rfl, S9, Q9⟩ := hB
  have S8 := S9
  obtain ⟨hl, hb, hs, hs2, hw, hc, hO, hW, hK⟩ := S8
  refine al_aload_n C dL_law_464 (i := 1) rfl rfl ?_
  refine al_aload_n C dL_law_465 (i := 0) rfl rfl ?_
  refine al_iload_n C dL_law_466 (i := 3) rfl rfl ?_
  refine al_iconst C dL_law_467 ki_1 ?_
  refine al_iadd C dL_law_468 ?_
  refine al_sld C hX hbl (show t + 1 < L by omega) hL dL_law_469 ?_
  refine al_call (i := 0) (As := [.int (xs (t + 1))]) (As0 := [.int (xs (t + 1))]) (rest := []) C hT dL_law_470 cv_L_65 (cb_bond hT.1 S9 Q9) rfl rfl rfl ⟨Nat.le_of_ble_eq_true rfl, Nat.le_of_ble_eq_true rfl⟩ (Nat.le_of_ble_eq_true rfl) ⟨Nat.le_of_ble_eq_true rfl, Nat.le_of_ble_eq_true rfl⟩ (by decide) rfl rfl rfl (fun r9 g9 hp9 => ?_)
  obtain ⟨x1, rfl, rfl, hB9⟩ := hp9
  refine al_sw ?_
  refine al_aload_n C dL_law_473 (i := 2) rfl rfl ?_
  refine al_aload_n C dL_law_474 (i := 0) rfl rfl ?_
  refine al_iload_n C dL_law_475 (i := 3) rfl rfl ?_
  refine al_iconst C dL_law_476 ki_1 ?_
  refine al_iadd C dL_law_477 ?_
  refine al_sld C hX hbl (show t + 1 < L by omega) hL dL_law_478 ?_
  refine al_call (i := 0) (As := [.int (xs (t + 1))]) (As0 := [.int (xs (t + 1))]) (rest := [_]) C hT.sw dL_law_479 cv_L_68 (cm_bond hT.2.1 hc hs hs2 hw) rfl rfl rfl ⟨Nat.le_of_ble_eq_true rfl, Nat.le_of_ble_eq_true rfl⟩ (Nat.le_of_ble_eq_true rfl) ⟨Nat.le_of_ble_eq_true rfl, Nat.le_of_ble_eq_true rfl⟩ (by decide) rfl rfl rfl (fun r9 g9 hp9 => ?_)
  obtain ⟨x2, rfl, rfl, rsp, rwi, val, ends, rd, fw, bars, ways, rfl⟩ := hp9
  refine al_sw ?_
  refine al_icmp_eq (tgt := 783) C dL_law_482 (by decide) ?_
  exact K _ _ _ _ _ _ _ _ _ _ _ _ _ _ _ _ _ hB9
set_option maxRecDepth 20000 in
theorem lc_take {l : Launch} {D : va_G} {cy : Nat → ClassId} {z : Nat → Nat} {sA sV : Nat} {v : Value} {p : Program} {e : Env} {s : State} {m : MethodId} {args : Array Value} {below : List Frame} {meth : Method} {c : Code} {Q : State → Prop} {q1 q2 : Nat → Nat} {b L : Nat} {xs : Nat → Int32} (C : Cn p s m args meth c cL_law 4 RL D cy z sA sV v (fun a => s.heap.size ≤ a)) (hT : Tq s 49 q1 9 q2) (hX : va_X b L xs s s.heap) (hbl : b < s.heap.size) (hL : L ≤ 3072) {t : Nat} (ht : t + 6 ≤ L) {len span wires chg : Nat} {text : Nat → Nat} {h was eyes : Nat → Int32} {g1 : wS} {rsp rwi val ends : Nat} {rd fw bars ways : Nat → Int32} (hB : bwR cy q1 len span wires chg text h was eyes g1) (K : ∀ (len span wires chg : Nat) (text : Nat → Nat) (h was eyes : Nat → Int32) (g : wS) (rsp rwi val ends : Nat) (rd fw bars ways : Nat → Int32), bwR cy q1 len span wires chg text h was eyes g → AL p l e room_1 s m args below meth c D 4 Q 58 2495 49 q1 g 9 q2 (mdC cy q2 len span wires chg rsp rwi val ends text h was rd eyes fw bars ways) [(0, .ref b), (1, .ref (q1 0)), (2, .ref (q2 0)), (3, .int (nI t))] 783 []) : AL p l e room_1 s m args below meth c D 4 Q 58 2495 49 q1 g1 9 q2 (mdC cy q2 len span wires chg rsp rwi val ends text h was rd eyes fw bars ways) [(0, .ref b), (1, .ref (q1 0)), (2, .ref (q2 0)), (3, .int (nI t))] 487 [] := by
  obtain ⟨dsp, dwi, dat, pnx, vkn, dff, lbl, lsh, lpk, lett, num, lim, now, prw, plr, hgr, bk, bd, wio, wys, trl, clr, tld, tie, fst, las, saw, rfl, S9, Q9⟩ := hB
  have S8 := S9
  obtain ⟨hl, hb, hs, hs2, hw, hc, hO, hW, hK⟩ := S8
  refine al_aload_n C dL_law_487 (i := 1) rfl rfl ?_
  refine al_aload_n C dL_law_488 (i := 0) rfl rfl ?_
  refine al_iload_n C dL_law_489 (i := 3) rfl rfl ?_
  refine al_iconst C dL_law_490 ki_1 ?_
  refine al_iadd C dL_law_491 ?_
  refine al_sld C hX hbl (show t + 1 < L by omega) hL dL_law_492 ?_
  refine al_call (i := 0) (As := [.int (xs (t + 1))]) (As0 := [.int (xs (t + 1))]) (rest := []) C hT dL_law_493 cv_L_69 (cb_take hT.1 S9 Q9) rfl rfl rfl ⟨Nat.le_of_ble_eq_true rfl, Nat.le_of_ble_eq_true rfl⟩ (Nat.le_of_ble_eq_true rfl) ⟨Nat.le_of_ble_eq_true rfl, Nat.le_of_ble_eq_true rfl⟩ (by decide) rfl rfl rfl (fun r9 g9 hp9 => ?_)
  obtain ⟨x1, rfl, rfl, hB9⟩ := hp9
  refine al_sw ?_
  refine al_aload_n C dL_law_496 (i := 2) rfl rfl ?_
  refine al_aload_n C dL_law_497 (i := 0) rfl rfl ?_
  refine al_iload_n C dL_law_498 (i := 3) rfl rfl ?_
  refine al_iconst C dL_law_499 ki_1 ?_
  refine al_iadd C dL_law_500 ?_
  refine al_sld C hX hbl (show t + 1 < L by omega) hL dL_law_501 ?_
  refine al_call (i := 0) (As := [.int (xs (t + 1))]) (As0 := [.int (xs (t + 1))]) (rest := [_]) C hT.sw dL_law_502 cv_L_72 (cm_take hT.2.1 hc hs hs2 hw) rfl rfl rfl ⟨Nat.le_of_ble_eq_true rfl, Nat.le_of_ble_eq_true rfl⟩ (Nat.le_of_ble_eq_true rfl) ⟨Nat.le_of_ble_eq_true rfl, Nat.le_of_ble_eq_true rfl⟩ (by decide) rfl rfl rfl (fun r9 g9 hp9 => ?_)
  obtain ⟨x2, rfl, rfl, rsp, rwi, val, ends, rd, fw, bars, ways, rfl⟩ := hp9
  refine al_sw ?_
  refine al_icmp_eq (tgt := 783) C dL_law_505 (by decide) ?_
  exact K _ _ _ _ _ _ _ _ _ _ _ _ _ _ _ _ _ hB9
set_option maxRecDepth 20000 in
theorem lc_ready {l : Launch} {D : va_G} {cy : Nat → ClassId} {z : Nat → Nat} {sA sV : Nat} {v : Value} {p : Program} {e : Env} {s : State} {m : MethodId} {args : Array Value} {below : List Frame} {meth : Method} {c : Code} {Q : State → Prop} {q1 q2 : Nat → Nat} {b L : Nat} {xs : Nat → Int32} (C : Cn p s m args meth c cL_law 4 RL D cy z sA sV v (fun a => s.heap.size ≤ a)) (hT : Tq s 49 q1 9 q2) (hX : va_X b L xs s s.heap) (hbl : b < s.heap.size) (hL : L ≤ 3072) {t : Nat} (ht : t + 6 ≤ L) {len span wires chg : Nat} {text : Nat → Nat} {h was eyes : Nat → Int32} {g1 : wS} {rsp rwi val ends : Nat} {rd fw bars ways : Nat → Int32} (hB : bwR cy q1 len span wires chg text h was eyes g1) (K : ∀ (len span wires chg : Nat) (text : Nat → Nat) (h was eyes : Nat → Int32) (g : wS) (rsp rwi val ends : Nat) (rd fw bars ways : Nat → Int32), bwR cy q1 len span wires chg text h was eyes g → AL p l e room_1 s m args below meth c D 4 Q 58 2495 49 q1 g 9 q2 (mdC cy q2 len span wires chg rsp rwi val ends text h was rd eyes fw bars ways) [(0, .ref b), (1, .ref (q1 0)), (2, .ref (q2 0)), (3, .int (nI t))] 783 []) : AL p l e room_1 s m args below meth c D 4 Q 58 2495 49 q1 g1 9 q2 (mdC cy q2 len span wires chg rsp rwi val ends text h was rd eyes fw bars ways) [(0, .ref b), (1, .ref (q1 0)), (2, .ref (q2 0)), (3, .int (nI t))] 510 [] := by
  obtain ⟨dsp, dwi, dat, pnx, vkn, dff, lbl, lsh, lpk, lett, num, lim, now, prw, plr, hgr, bk, bd, wio, wys, trl, clr, tld, tie, fst, las, saw, rfl, S9, Q9⟩ := hB
  have S8 := S9
  obtain ⟨hl, hb, hs, hs2, hw, hc, hO, hW, hK⟩ := S8
  refine al_aload_n C dL_law_510 (i := 1) rfl rfl ?_
  refine al_call (i := 0) (As := []) (As0 := []) (rest := []) C hT dL_law_511 cv_L_73 (cb_ready hT.1 S9 Q9) rfl rfl rfl ⟨Nat.le_of_ble_eq_true rfl, Nat.le_of_ble_eq_true rfl⟩ (Nat.le_of_ble_eq_true rfl) ⟨Nat.le_of_ble_eq_true rfl, Nat.le_of_ble_eq_true rfl⟩ (by decide) rfl rfl rfl (fun r9 g9 hp9 => ?_)
  obtain ⟨x1, rfl, rfl, hB9⟩ := hp9
  refine al_sw ?_
  refine al_aload_n C dL_law_514 (i := 2) rfl rfl ?_
  refine al_call (i := 0) (As := []) (As0 := []) (rest := [_]) C hT.sw dL_law_515 cv_L_76 (cm_ready hT.2.1 hs hs2 hw) rfl rfl rfl ⟨Nat.le_of_ble_eq_true rfl, Nat.le_of_ble_eq_true rfl⟩ (Nat.le_of_ble_eq_true rfl) ⟨Nat.le_of_ble_eq_true rfl, Nat.le_of_ble_eq_true rfl⟩ (by decide) rfl rfl rfl (fun r9 g9 hp9 => ?_)
  obtain ⟨rfl, rfl⟩ := hp9
  refine al_sw ?_
  refine al_icmp_eq (tgt := 783) C dL_law_518 (by decide) ?_
  exact K _ _ _ _ _ _ _ _ _ _ _ _ _ _ _ _ _ hB9
set_option maxRecDepth 20000 in
theorem lc_order {l : Launch} {D : va_G} {cy : Nat → ClassId} {z : Nat → Nat} {sA sV : Nat} {v : Value} {p : Program} {e : Env} {s : State} {m : MethodId} {args : Array Value} {below : List Frame} {meth : Method} {c : Code} {Q : State → Prop} {q1 q2 : Nat → Nat} {b L : Nat} {xs : Nat → Int32} (C : Cn p s m args meth c cL_law 4 RL D cy z sA sV v (fun a => s.heap.size ≤ a)) (hT : Tq s 49 q1 9 q2) (hX : va_X b L xs s s.heap) (hbl : b < s.heap.size) (hL : L ≤ 3072) {t : Nat} (ht : t + 6 ≤ L) {len span wires chg : Nat} {text : Nat → Nat} {h was eyes : Nat → Int32} {g1 : wS} {rsp rwi val ends : Nat} {rd fw bars ways : Nat → Int32} (hB : bwR cy q1 len span wires chg text h was eyes g1) (K : ∀ (len span wires chg : Nat) (text : Nat → Nat) (h was eyes : Nat → Int32) (g : wS) (rsp rwi val ends : Nat) (rd fw bars ways : Nat → Int32), bwR cy q1 len span wires chg text h was eyes g → AL p l e room_1 s m args below meth c D 4 Q 58 2495 49 q1 g 9 q2 (mdC cy q2 len span wires chg rsp rwi val ends text h was rd eyes fw bars ways) [(0, .ref b), (1, .ref (q1 0)), (2, .ref (q2 0)), (3, .int (nI t))] 783 []) : AL p l e room_1 s m args below meth c D 4 Q 58 2495 49 q1 g1 9 q2 (mdC cy q2 len span wires chg rsp rwi val ends text h was rd eyes fw bars ways) [(0, .ref b), (1, .ref (q1 0)), (2, .ref (q2 0)), (3, .int (nI t))] 523 [] := by
  obtain ⟨dsp, dwi, dat, pnx, vkn, dff, lbl, lsh, lpk, lett, num, lim, now, prw, plr, hgr, bk, bd, wio, wys, trl, clr, tld, tie, fst, las, saw, rfl, S9, Q9⟩ := hB
  have S8 := S9
  obtain ⟨hl, hb, hs, hs2, hw, hc, hO, hW, hK⟩ := S8
  refine al_aload_n C dL_law_523 (i := 1) rfl rfl ?_
  refine al_aload_n C dL_law_524 (i := 0) rfl rfl ?_
  refine al_iload_n C dL_law_525 (i := 3) rfl rfl ?_
  refine al_iconst C dL_law_526 ki_1 ?_
  refine al_iadd C dL_law_527 ?_
  refine al_sld C hX hbl (show t + 1 < L by omega) hL dL_law_528 ?_
  refine al_call (i := 0) (As := [.int (xs (t + 1))]) (As0 := [.int (xs (t + 1))]) (rest := []) C hT dL_law_529 cv_L_77 (cb_order hT.1 S9 Q9) rfl rfl rfl ⟨Nat.le_of_ble_eq_true rfl, Nat.le_of_ble_eq_true rfl⟩ (Nat.le_of_ble_eq_true rfl) ⟨Nat.le_of_ble_eq_true rfl, Nat.le_of_ble_eq_true rfl⟩ (by decide) rfl rfl rfl (fun r9 g9 hp9 => ?_)
  obtain ⟨x1, rfl, rfl, hB9⟩ := hp9
  refine al_sw ?_
  refine al_aload_n C dL_law_532 (i := 2) rfl rfl ?_
  refine al_aload_n C dL_law_533 (i := 0) rfl rfl ?_
  refine al_iload_n C dL_law_534 (i := 3) rfl rfl ?_
  refine al_iconst C dL_law_535 ki_1 ?_
  refine al_iadd C dL_law_536 ?_
  refine al_sld C hX hbl (show t + 1 < L by omega) hL dL_law_537 ?_
  refine al_call (i := 0) (As := [.int (xs (t + 1))]) (As0 := [.int (xs (t + 1))]) (rest := [_]) C hT.sw dL_law_538 cv_L_80 (cm_order hT.2.1 hs hs2 hw) rfl rfl rfl ⟨Nat.le_of_ble_eq_true rfl, Nat.le_of_ble_eq_true rfl⟩ (Nat.le_of_ble_eq_true rfl) ⟨Nat.le_of_ble_eq_true rfl, Nat.le_of_ble_eq_true rfl⟩ (by decide) rfl rfl rfl (fun r9 g9 hp9 => ?_)
  obtain ⟨x2, rfl, rfl, rsp, rwi, val, ends, rd, fw, bars, ways, rfl⟩ := hp9
  refine al_sw ?_
  refine al_icmp_eq (tgt := 783) C dL_law_541 (by decide) ?_
  exact K _ _ _ _ _ _ _ _ _ _ _ _ _ _ _ _ _ hB9
set_option maxRecDepth 20000 in
theorem lc_orders {l : Launch} {D : va_G} {cy : Nat → ClassId} {z : Nat → Nat} {sA sV : Nat} {v : Value} {p : Program} {e : Env} {s : State} {m : MethodId} {args : Array Value} {below : List Frame} {meth : Method} {c : Code} {Q : State → Prop} {q1 q2 : Nat → Nat} {b L : Nat} {xs : Nat → Int32} (C : Cn p s m args meth c cL_law 4 RL D cy z sA sV v (fun a => s.heap.size ≤ a)) (hT : Tq s 49 q1 9 q2) (hX : va_X b L xs s s.heap) (hbl : b < s.heap.size) (hL : L ≤ 3072) {t : Nat} (ht : t + 6 ≤ L) {len span wires chg : Nat} {text : Nat → Nat} {h was eyes : Nat → Int32} {g1 : wS} {rsp rwi val ends : Nat} {rd fw bars ways : Nat → Int32} (hB : bwR cy q1 len span wires chg text h was eyes g1) (K : ∀ (len span wires chg : Nat) (text : Nat → Nat) (h was eyes : Nat → Int32) (g : wS) (rsp rwi val ends : Nat) (rd fw bars ways : Nat → Int32), bwR cy q1 len span wires chg text h was eyes g → AL p l e room_1 s m args below meth c D 4 Q 58 2495 49 q1 g 9 q2 (mdC cy q2 len span wires chg rsp rwi val ends text h was rd eyes fw bars ways) [(0, .ref b), (1, .ref (q1 0)), (2, .ref (q2 0)), (3, .int (nI t))] 783 []) : AL p l e room_1 s m args below meth c D 4 Q 58 2495 49 q1 g1 9 q2 (mdC cy q2 len span wires chg rsp rwi val ends text h was rd eyes fw bars ways) [(0, .ref b), (1, .ref (q1 0)), (2, .ref (q2 0)), (3, .int (nI t))] 546 [] := by
  obtain ⟨dsp, dwi, dat, pnx, vkn, dff, lbl, lsh, lpk, lett, num, lim, now, prw, plr, hgr, bk, bd, wio, wys, trl, clr, tld, tie, fst, las, saw, rfl, S9, Q9⟩ := hB
  have S8 := S9
  obtain ⟨hl, hb, hs, hs2, hw, hc, hO, hW, hK⟩ := S8
  refine al_aload_n C dL_law_546 (i := 1) rfl rfl ?_
  refine al_call (i := 0) (As := []) (As0 := []) (rest := []) C hT dL_law_547 cv_L_81 (cb_orders (w := ways) hT.1 S9 Q9) rfl rfl rfl ⟨Nat.le_of_ble_eq_true rfl, Nat.le_of_ble_eq_true rfl⟩ (Nat.le_of_ble_eq_true rfl) ⟨Nat.le_of_ble_eq_true rfl, Nat.le_of_ble_eq_true rfl⟩ (by decide) rfl rfl rfl (fun r9 g9 hp9 => ?_)
  obtain ⟨x1, rfl, rfl, hB9⟩ := hp9
  refine al_sw ?_
  refine al_aload_n C dL_law_550 (i := 2) rfl rfl ?_
  refine al_call (i := 0) (As := []) (As0 := []) (rest := [_]) C hT.sw dL_law_551 cv_L_84 (cm_orders hT.2.1 hs hs2 hw) rfl rfl rfl ⟨Nat.le_of_ble_eq_true rfl, Nat.le_of_ble_eq_true rfl⟩ (Nat.le_of_ble_eq_true rfl) ⟨Nat.le_of_ble_eq_true rfl, Nat.le_of_ble_eq_true rfl⟩ (by decide) rfl rfl rfl (fun r9 g9 hp9 => ?_)
  obtain ⟨x2, rfl, rfl, rsp, rwi, val, ends, rd, fw, bars, ways, rfl⟩ := hp9
  refine al_sw ?_
  refine al_icmp_eq (tgt := 783) C dL_law_554 (by decide) ?_
  exact K _ _ _ _ _ _ _ _ _ _ _ _ _ _ _ _ _ hB9
set_option maxRecDepth 20000 in
theorem lc_stuck {l : Launch} {D : va_G} {cy : Nat → ClassId} {z : Nat → Nat} {sA sV : Nat} {v : Value} {p : Program} {e : Env} {s : State} {m : MethodId} {args : Array Value} {below : List Frame} {meth : Method} {c : Code} {Q : State → Prop} {q1 q2 : Nat → Nat} {b L : Nat} {xs : Nat → Int32} (C : Cn p s m args meth c cL_law 4 RL D cy z sA sV v (fun a => s.heap.size ≤ a)) (hT : Tq s 49 q1 9 q2) (hX : va_X b L xs s s.heap) (hbl : b < s.heap.size) (hL : L ≤ 3072) {t : Nat} (ht : t + 6 ≤ L) {len span wires chg : Nat} {text : Nat → Nat} {h was eyes : Nat → Int32} {g1 : wS} {rsp rwi val ends : Nat} {rd fw bars ways : Nat → Int32} (hB : bwR cy q1 len span wires chg text h was eyes g1) (K : ∀ (len span wires chg : Nat) (text : Nat → Nat) (h was eyes : Nat → Int32) (g : wS) (rsp rwi val ends : Nat) (rd fw bars ways : Nat → Int32), bwR cy q1 len span wires chg text h was eyes g → AL p l e room_1 s m args below meth c D 4 Q 58 2495 49 q1 g 9 q2 (mdC cy q2 len span wires chg rsp rwi val ends text h was rd eyes fw bars ways) [(0, .ref b), (1, .ref (q1 0)), (2, .ref (q2 0)), (3, .int (nI t))] 783 []) : AL p l e room_1 s m args below meth c D 4 Q 58 2495 49 q1 g1 9 q2 (mdC cy q2 len span wires chg rsp rwi val ends text h was rd eyes fw bars ways) [(0, .ref b), (1, .ref (q1 0)), (2, .ref (q2 0)), (3, .int (nI t))] 559 [] := by
  obtain ⟨dsp, dwi, dat, pnx, vkn, dff, lbl, lsh, lpk, lett, num, lim, now, prw, plr, hgr, bk, bd, wio, wys, trl, clr, tld, tie, fst, las, saw, rfl, S9, Q9⟩ := hB
  have S8 := S9
  obtain ⟨hl, hb, hs, hs2, hw, hc, hO, hW, hK⟩ := S8
  refine al_aload_n C dL_law_559 (i := 1) rfl rfl ?_
  refine al_call (i := 0) (As := []) (As0 := []) (rest := []) C hT dL_law_560 cv_L_85 (cb_stuck hT.1 S9 Q9) rfl rfl rfl ⟨Nat.le_of_ble_eq_true rfl, Nat.le_of_ble_eq_true rfl⟩ (Nat.le_of_ble_eq_true rfl) ⟨Nat.le_of_ble_eq_true rfl, Nat.le_of_ble_eq_true rfl⟩ (by decide) rfl rfl rfl (fun r9 g9 hp9 => ?_)
  obtain ⟨x1, rfl, rfl, hB9⟩ := hp9
  refine al_sw ?_
  refine al_aload_n C dL_law_563 (i := 2) rfl rfl ?_
  refine al_call (i := 0) (As := []) (As0 := []) (rest := [_]) C hT.sw dL_law_564 cv_L_88 (cm_stuck hT.2.1 hs hs2 hw) rfl rfl rfl ⟨Nat.le_of_ble_eq_true rfl, Nat.le_of_ble_eq_true rfl⟩ (Nat.le_of_ble_eq_true rfl) ⟨Nat.le_of_ble_eq_true rfl, Nat.le_of_ble_eq_true rfl⟩ (by decide) rfl rfl rfl (fun r9 g9 hp9 => ?_)
  obtain ⟨rfl, rfl⟩ := hp9
  refine al_sw ?_
  refine al_icmp_eq (tgt := 783) C dL_law_567 (by decide) ?_
  exact K _ _ _ _ _ _ _ _ _ _ _ _ _ _ _ _ _ hB9
set_option maxRecDepth 20000 in
theorem lc_loop {l : Launch} {D : va_G} {cy : Nat → ClassId} {z : Nat → Nat} {sA sV : Nat} {v : Value} {p : Program} {e : Env} {s : State} {m : MethodId} {args : Array Value} {below : List Frame} {meth : Method} {c : Code} {Q : State → Prop} {q1 q2 : Nat → Nat} {b L : Nat} {xs : Nat → Int32} (C : Cn p s m args meth c cL_law 4 RL D cy z sA sV v (fun a => s.heap.size ≤ a)) (hT : Tq s 49 q1 9 q2) (hX : va_X b L xs s s.heap) (hbl : b < s.heap.size) (hL : L ≤ 3072) {t : Nat} (ht : t + 6 ≤ L) {len span wires chg : Nat} {text : Nat → Nat} {h was eyes : Nat → Int32} {g1 : wS} {rsp rwi val ends : Nat} {rd fw bars ways : Nat → Int32} (hB : bwR cy q1 len span wires chg text h was eyes g1) (K : ∀ (len span wires chg : Nat) (text : Nat → Nat) (h was eyes : Nat → Int32) (g : wS) (rsp rwi val ends : Nat) (rd fw bars ways : Nat → Int32), bwR cy q1 len span wires chg text h was eyes g → AL p l e room_1 s m args below meth c D 4 Q 58 2495 49 q1 g 9 q2 (mdC cy q2 len span wires chg rsp rwi val ends text h was rd eyes fw bars ways) [(0, .ref b), (1, .ref (q1 0)), (2, .ref (q2 0)), (3, .int (nI t))] 783 []) : AL p l e room_1 s m args below meth c D 4 Q 58 2495 49 q1 g1 9 q2 (mdC cy q2 len span wires chg rsp rwi val ends text h was rd eyes fw bars ways) [(0, .ref b), (1, .ref (q1 0)), (2, .ref (q2 0)), (3, .int (nI t))] 572 [] := by
  obtain ⟨dsp, dwi, dat, pnx, vkn, dff, lbl, lsh, lpk, lett, num, lim, now, prw, plr, hgr, bk, bd, wio, wys, trl, clr, tld, tie, fst, las, saw, rfl, S9, Q9⟩ := hB
  have S8 := S9
  obtain ⟨hl, hb, hs, hs2, hw, hc, hO, hW, hK⟩ := S8
  have hsh : ∀ a, a < wires → ∃ t, t ≤ 2 ∧ h (5 * a + 3) = nI t := fun a ha => (hO.1 a ha).2.2.2.1
  refine al_aload_n C dL_law_572 (i := 1) rfl rfl ?_
  refine al_aload_n C dL_law_573 (i := 0) rfl rfl ?_
  refine al_iload_n C dL_law_574 (i := 3) rfl rfl ?_
  refine al_iconst C dL_law_575 ki_1 ?_
  refine al_iadd C dL_law_576 ?_
  refine al_sld C hX hbl (show t + 1 < L by omega) hL dL_law_577 ?_
  refine al_call (i := 0) (As := [.int (xs (t + 1))]) (As0 := [.int (xs (t + 1))]) (rest := []) C hT dL_law_578 cv_L_89 (cb_loop hT.1 S9 Q9) rfl rfl rfl ⟨Nat.le_of_ble_eq_true rfl, Nat.le_of_ble_eq_true rfl⟩ (Nat.le_of_ble_eq_true rfl) ⟨Nat.le_of_ble_eq_true rfl, Nat.le_of_ble_eq_true rfl⟩ (by decide) rfl rfl rfl (fun r9 g9 hp9 => ?_)
  obtain ⟨x1, rfl, rfl, hB9⟩ := hp9
  refine al_sw ?_
  refine al_aload_n C dL_law_581 (i := 2) rfl rfl ?_
  refine al_aload_n C dL_law_582 (i := 0) rfl rfl ?_
  refine al_iload_n C dL_law_583 (i := 3) rfl rfl ?_
  refine al_iconst C dL_law_584 ki_1 ?_
  refine al_iadd C dL_law_585 ?_
  refine al_sld C hX hbl (show t + 1 < L by omega) hL dL_law_586 ?_
  refine al_call (i := 0) (As := [.int (xs (t + 1))]) (As0 := [.int (xs (t + 1))]) (rest := [_]) C hT.sw dL_law_587 cv_L_92 (cm_loop hT.2.1 hsh hs hs2 hw) rfl rfl rfl ⟨Nat.le_of_ble_eq_true rfl, Nat.le_of_ble_eq_true rfl⟩ (Nat.le_of_ble_eq_true rfl) ⟨Nat.le_of_ble_eq_true rfl, Nat.le_of_ble_eq_true rfl⟩ (by decide) rfl rfl rfl (fun r9 g9 hp9 => ?_)
  obtain ⟨rfl, rfl⟩ := hp9
  refine al_sw ?_
  refine al_icmp_eq (tgt := 783) C dL_law_590 (by decide) ?_
  exact K _ _ _ _ _ _ _ _ _ _ _ _ _ _ _ _ _ hB9
set_option maxRecDepth 20000 in
theorem lc_mend {l : Launch} {D : va_G} {cy : Nat → ClassId} {z : Nat → Nat} {sA sV : Nat} {v : Value} {p : Program} {e : Env} {s : State} {m : MethodId} {args : Array Value} {below : List Frame} {meth : Method} {c : Code} {Q : State → Prop} {q1 q2 : Nat → Nat} {b L : Nat} {xs : Nat → Int32} (C : Cn p s m args meth c cL_law 4 RL D cy z sA sV v (fun a => s.heap.size ≤ a)) (hT : Tq s 49 q1 9 q2) (hX : va_X b L xs s s.heap) (hbl : b < s.heap.size) (hL : L ≤ 3072) {t : Nat} (ht : t + 6 ≤ L) {len span wires chg : Nat} {text : Nat → Nat} {h was eyes : Nat → Int32} {g1 : wS} {rsp rwi val ends : Nat} {rd fw bars ways : Nat → Int32} (hB : bwR cy q1 len span wires chg text h was eyes g1) (K : ∀ (len span wires chg : Nat) (text : Nat → Nat) (h was eyes : Nat → Int32) (g : wS) (rsp rwi val ends : Nat) (rd fw bars ways : Nat → Int32), bwR cy q1 len span wires chg text h was eyes g → AL p l e room_1 s m args below meth c D 4 Q 58 2495 49 q1 g 9 q2 (mdC cy q2 len span wires chg rsp rwi val ends text h was rd eyes fw bars ways) [(0, .ref b), (1, .ref (q1 0)), (2, .ref (q2 0)), (3, .int (nI t))] 783 []) : AL p l e room_1 s m args below meth c D 4 Q 58 2495 49 q1 g1 9 q2 (mdC cy q2 len span wires chg rsp rwi val ends text h was rd eyes fw bars ways) [(0, .ref b), (1, .ref (q1 0)), (2, .ref (q2 0)), (3, .int (nI t))] 595 [] := by
  obtain ⟨dsp, dwi, dat, pnx, vkn, dff, lbl, lsh, lpk, lett, num, lim, now, prw, plr, hgr, bk, bd, wio, wys, trl, clr, tld, tie, fst, las, saw, rfl, S9, Q9⟩ := hB
  have S8 := S9
  obtain ⟨hl, hb, hs, hs2, hw, hc, hO, hW, hK⟩ := S8
  have hsh : ∀ a, a < wires → ∃ t, t ≤ 2 ∧ h (5 * a + 3) = nI t := fun a ha => (hO.1 a ha).2.2.2.1
  refine al_aload_n C dL_law_595 (i := 1) rfl rfl ?_
  refine al_aload_n C dL_law_596 (i := 0) rfl rfl ?_
  refine al_iload_n C dL_law_597 (i := 3) rfl rfl ?_
  refine al_iconst C dL_law_598 ki_1 ?_
  refine al_iadd C dL_law_599 ?_
  refine al_sld C hX hbl (show t + 1 < L by omega) hL dL_law_600 ?_
  refine al_call (i := 0) (As := [.int (xs (t + 1))]) (As0 := [.int (xs (t + 1))]) (rest := []) C hT dL_law_601 cv_L_93 (cb_mend hT.1 S9 Q9) rfl rfl rfl ⟨Nat.le_of_ble_eq_true rfl, Nat.le_of_ble_eq_true rfl⟩ (Nat.le_of_ble_eq_true rfl) ⟨Nat.le_of_ble_eq_true rfl, Nat.le_of_ble_eq_true rfl⟩ (by decide) rfl rfl rfl (fun r9 g9 hp9 => ?_)
  obtain ⟨x1, rfl, rfl, hB9⟩ := hp9
  refine al_sw ?_
  refine al_aload_n C dL_law_604 (i := 2) rfl rfl ?_
  refine al_aload_n C dL_law_605 (i := 0) rfl rfl ?_
  refine al_iload_n C dL_law_606 (i := 3) rfl rfl ?_
  refine al_iconst C dL_law_607 ki_1 ?_
  refine al_iadd C dL_law_608 ?_
  refine al_sld C hX hbl (show t + 1 < L by omega) hL dL_law_609 ?_
  refine al_call (i := 0) (As := [.int (xs (t + 1))]) (As0 := [.int (xs (t + 1))]) (rest := [_]) C hT.sw dL_law_610 cv_L_96 (cm_mend hT.2.1 hc hsh hs hs2 hw) rfl rfl rfl ⟨Nat.le_of_ble_eq_true rfl, Nat.le_of_ble_eq_true rfl⟩ (Nat.le_of_ble_eq_true rfl) ⟨Nat.le_of_ble_eq_true rfl, Nat.le_of_ble_eq_true rfl⟩ (by decide) rfl rfl rfl (fun r9 g9 hp9 => ?_)
  obtain ⟨x2, rfl, rfl, rsp, rwi, val, ends, rd, fw, bars, ways, rfl⟩ := hp9
  refine al_sw ?_
  refine al_icmp_eq (tgt := 783) C dL_law_613 (by decide) ?_
  exact K _ _ _ _ _ _ _ _ _ _ _ _ _ _ _ _ _ hB9
set_option maxRecDepth 20000 in
theorem lc_sees {l : Launch} {D : va_G} {cy : Nat → ClassId} {z : Nat → Nat} {sA sV : Nat} {v : Value} {p : Program} {e : Env} {s : State} {m : MethodId} {args : Array Value} {below : List Frame} {meth : Method} {c : Code} {Q : State → Prop} {q1 q2 : Nat → Nat} {b L : Nat} {xs : Nat → Int32} (C : Cn p s m args meth c cL_law 4 RL D cy z sA sV v (fun a => s.heap.size ≤ a)) (hT : Tq s 49 q1 9 q2) (hX : va_X b L xs s s.heap) (hbl : b < s.heap.size) (hL : L ≤ 3072) {t : Nat} (ht : t + 6 ≤ L) {len span wires chg : Nat} {text : Nat → Nat} {h was eyes : Nat → Int32} {g1 : wS} {rsp rwi val ends : Nat} {rd fw bars ways : Nat → Int32} (hB : bwR cy q1 len span wires chg text h was eyes g1) (K : ∀ (len span wires chg : Nat) (text : Nat → Nat) (h was eyes : Nat → Int32) (g : wS) (rsp rwi val ends : Nat) (rd fw bars ways : Nat → Int32), bwR cy q1 len span wires chg text h was eyes g → AL p l e room_1 s m args below meth c D 4 Q 58 2495 49 q1 g 9 q2 (mdC cy q2 len span wires chg rsp rwi val ends text h was rd eyes fw bars ways) [(0, .ref b), (1, .ref (q1 0)), (2, .ref (q2 0)), (3, .int (nI t))] 783 []) : AL p l e room_1 s m args below meth c D 4 Q 58 2495 49 q1 g1 9 q2 (mdC cy q2 len span wires chg rsp rwi val ends text h was rd eyes fw bars ways) [(0, .ref b), (1, .ref (q1 0)), (2, .ref (q2 0)), (3, .int (nI t))] 618 [] := by
  obtain ⟨dsp, dwi, dat, pnx, vkn, dff, lbl, lsh, lpk, lett, num, lim, now, prw, plr, hgr, bk, bd, wio, wys, trl, clr, tld, tie, fst, las, saw, rfl, S9, Q9⟩ := hB
  have S8 := S9
  obtain ⟨hl, hb, hs, hs2, hw, hc, hO, hW, hK⟩ := S8
  refine al_aload_n C dL_law_618 (i := 1) rfl rfl ?_
  refine al_aload_n C dL_law_619 (i := 0) rfl rfl ?_
  refine al_iload_n C dL_law_620 (i := 3) rfl rfl ?_
  refine al_iconst C dL_law_621 ki_1 ?_
  refine al_iadd C dL_law_622 ?_
  refine al_sld C hX hbl (show t + 1 < L by omega) hL dL_law_623 ?_
  refine al_aload_n C dL_law_624 (i := 0) rfl rfl ?_
  refine al_iload_n C dL_law_625 (i := 3) rfl rfl ?_
  refine al_iconst C dL_law_626 ki_2 ?_
  refine al_iadd C dL_law_627 ?_
  refine al_sld C hX hbl (show t + 2 < L by omega) hL dL_law_628 ?_
  refine al_aload_n C dL_law_629 (i := 0) rfl rfl ?_
  refine al_iload_n C dL_law_630 (i := 3) rfl rfl ?_
  refine al_iconst C dL_law_631 ki_3 ?_
  refine al_iadd C dL_law_632 ?_
  refine al_sld C hX hbl (show t + 3 < L by omega) hL dL_law_633 ?_
  refine al_call (i := 0) (As := [.int (xs (t + 1)), .int (xs (t + 2)), .int (xs (t + 3))]) (As0 := [.int (xs (t + 3)), .int (xs (t + 2)), .int (xs (t + 1))]) (rest := []) C hT dL_law_634 cv_L_97 (cb_sees hT.1 S9 Q9) rfl rfl rfl ⟨Nat.le_of_ble_eq_true rfl, Nat.le_of_ble_eq_true rfl⟩ (Nat.le_of_ble_eq_true rfl) ⟨Nat.le_of_ble_eq_true rfl, Nat.le_of_ble_eq_true rfl⟩ (by decide) rfl rfl rfl (fun r9 g9 hp9 => ?_)
  obtain ⟨x1, rfl, rfl, hB9⟩ := hp9
  refine al_sw ?_
  refine al_aload_n C dL_law_637 (i := 2) rfl rfl ?_
  refine al_aload_n C dL_law_638 (i := 0) rfl rfl ?_
  refine al_iload_n C dL_law_639 (i := 3) rfl rfl ?_
  refine al_iconst C dL_law_640 ki_1 ?_
  refine al_iadd C dL_law_641 ?_
  refine al_sld C hX hbl (show t + 1 < L by omega) hL dL_law_642 ?_
  refine al_aload_n C dL_law_643 (i := 0) rfl rfl ?_
  refine al_iload_n C dL_law_644 (i := 3) rfl rfl ?_
  refine al_iconst C dL_law_645 ki_2 ?_
  refine al_iadd C dL_law_646 ?_
  refine al_sld C hX hbl (show t + 2 < L by omega) hL dL_law_647 ?_
  refine al_aload_n C dL_law_648 (i := 0) rfl rfl ?_
  refine al_iload_n C dL_law_649 (i := 3) rfl rfl ?_
  refine al_iconst C dL_law_650 ki_3 ?_
  refine al_iadd C dL_law_651 ?_
  refine al_sld C hX hbl (show t + 3 < L by omega) hL dL_law_652 ?_
  refine al_call (i := 0) (As := [.int (xs (t + 1)), .int (xs (t + 2)), .int (xs (t + 3))]) (As0 := [.int (xs (t + 3)), .int (xs (t + 2)), .int (xs (t + 1))]) (rest := [_]) C hT.sw dL_law_653 cv_L_100 (cm_sees hT.2.1 hw) rfl rfl rfl ⟨Nat.le_of_ble_eq_true rfl, Nat.le_of_ble_eq_true rfl⟩ (Nat.le_of_ble_eq_true rfl) ⟨Nat.le_of_ble_eq_true rfl, Nat.le_of_ble_eq_true rfl⟩ (by decide) rfl rfl rfl (fun r9 g9 hp9 => ?_)
  obtain ⟨rfl, rfl⟩ := hp9
  refine al_sw ?_
  refine al_icmp_eq (tgt := 783) C dL_law_656 (by decide) ?_
  exact K _ _ _ _ _ _ _ _ _ _ _ _ _ _ _ _ _ hB9
set_option maxRecDepth 20000 in
theorem lc_eye {l : Launch} {D : va_G} {cy : Nat → ClassId} {z : Nat → Nat} {sA sV : Nat} {v : Value} {p : Program} {e : Env} {s : State} {m : MethodId} {args : Array Value} {below : List Frame} {meth : Method} {c : Code} {Q : State → Prop} {q1 q2 : Nat → Nat} {b L : Nat} {xs : Nat → Int32} (C : Cn p s m args meth c cL_law 4 RL D cy z sA sV v (fun a => s.heap.size ≤ a)) (hT : Tq s 49 q1 9 q2) (hX : va_X b L xs s s.heap) (hbl : b < s.heap.size) (hL : L ≤ 3072) {t : Nat} (ht : t + 6 ≤ L) {len span wires chg : Nat} {text : Nat → Nat} {h was eyes : Nat → Int32} {g1 : wS} {rsp rwi val ends : Nat} {rd fw bars ways : Nat → Int32} (hB : bwR cy q1 len span wires chg text h was eyes g1) (K : ∀ (len span wires chg : Nat) (text : Nat → Nat) (h was eyes : Nat → Int32) (g : wS) (rsp rwi val ends : Nat) (rd fw bars ways : Nat → Int32), bwR cy q1 len span wires chg text h was eyes g → AL p l e room_1 s m args below meth c D 4 Q 58 2495 49 q1 g 9 q2 (mdC cy q2 len span wires chg rsp rwi val ends text h was rd eyes fw bars ways) [(0, .ref b), (1, .ref (q1 0)), (2, .ref (q2 0)), (3, .int (nI t))] 783 []) : AL p l e room_1 s m args below meth c D 4 Q 58 2495 49 q1 g1 9 q2 (mdC cy q2 len span wires chg rsp rwi val ends text h was rd eyes fw bars ways) [(0, .ref b), (1, .ref (q1 0)), (2, .ref (q2 0)), (3, .int (nI t))] 661 [] := by
  obtain ⟨dsp, dwi, dat, pnx, vkn, dff, lbl, lsh, lpk, lett, num, lim, now, prw, plr, hgr, bk, bd, wio, wys, trl, clr, tld, tie, fst, las, saw, rfl, S9, Q9⟩ := hB
  have S8 := S9
  obtain ⟨hl, hb, hs, hs2, hw, hc, hO, hW, hK⟩ := S8
  refine al_aload_n C dL_law_661 (i := 1) rfl rfl ?_
  refine al_aload_n C dL_law_662 (i := 0) rfl rfl ?_
  refine al_iload_n C dL_law_663 (i := 3) rfl rfl ?_
  refine al_iconst C dL_law_664 ki_1 ?_
  refine al_iadd C dL_law_665 ?_
  refine al_sld C hX hbl (show t + 1 < L by omega) hL dL_law_666 ?_
  refine al_aload_n C dL_law_667 (i := 0) rfl rfl ?_
  refine al_iload_n C dL_law_668 (i := 3) rfl rfl ?_
  refine al_iconst C dL_law_669 ki_2 ?_
  refine al_iadd C dL_law_670 ?_
  refine al_sld C hX hbl (show t + 2 < L by omega) hL dL_law_671 ?_
  refine al_aload_n C dL_law_672 (i := 0) rfl rfl ?_
  refine al_iload_n C dL_law_673 (i := 3) rfl rfl ?_
  refine al_iconst C dL_law_674 ki_3 ?_
  refine al_iadd C dL_law_675 ?_
  refine al_sld C hX hbl (show t + 3 < L by omega) hL dL_law_676 ?_
  refine al_aload_n C dL_law_677 (i := 0) rfl rfl ?_
  refine al_iload_n C dL_law_678 (i := 3) rfl rfl ?_
  refine al_iconst C dL_law_679 ki_4 ?_
  refine al_iadd C dL_law_680 ?_
  refine al_sld C hX hbl (show t + 4 < L by omega) hL dL_law_681 ?_
  refine al_aload_n C dL_law_682 (i := 0) rfl rfl ?_
  refine al_iload_n C dL_law_683 (i := 3) rfl rfl ?_
  refine al_iconst C dL_law_684 ki_5 ?_
  refine al_iadd C dL_law_685 ?_
  refine al_sld C hX hbl (show t + 5 < L by omega) hL dL_law_686 ?_
  refine al_call (i := 0) (As := [.int (xs (t + 1)), .int (xs (t + 2)), .int (xs (t + 3)), .int (xs (t + 4)), .int (xs (t + 5))]) (As0 := [.int (xs (t + 5)), .int (xs (t + 4)), .int (xs (t + 3)), .int (xs (t + 2)), .int (xs (t + 1))]) (rest := []) C hT dL_law_687 cv_L_101 (cb_eye hT.1 S9 Q9) rfl rfl rfl ⟨Nat.le_of_ble_eq_true rfl, Nat.le_of_ble_eq_true rfl⟩ (Nat.le_of_ble_eq_true rfl) ⟨Nat.le_of_ble_eq_true rfl, Nat.le_of_ble_eq_true rfl⟩ (by decide) rfl rfl rfl (fun r9 g9 hp9 => ?_)
  obtain ⟨x1, rfl, rfl, hB9⟩ := hp9
  refine al_sw ?_
  refine al_aload_n C dL_law_690 (i := 2) rfl rfl ?_
  refine al_aload_n C dL_law_691 (i := 0) rfl rfl ?_
  refine al_iload_n C dL_law_692 (i := 3) rfl rfl ?_
  refine al_iconst C dL_law_693 ki_1 ?_
  refine al_iadd C dL_law_694 ?_
  refine al_sld C hX hbl (show t + 1 < L by omega) hL dL_law_695 ?_
  refine al_aload_n C dL_law_696 (i := 0) rfl rfl ?_
  refine al_iload_n C dL_law_697 (i := 3) rfl rfl ?_
  refine al_iconst C dL_law_698 ki_2 ?_
  refine al_iadd C dL_law_699 ?_
  refine al_sld C hX hbl (show t + 2 < L by omega) hL dL_law_700 ?_
  refine al_aload_n C dL_law_701 (i := 0) rfl rfl ?_
  refine al_iload_n C dL_law_702 (i := 3) rfl rfl ?_
  refine al_iconst C dL_law_703 ki_3 ?_
  refine al_iadd C dL_law_704 ?_
  refine al_sld C hX hbl (show t + 3 < L by omega) hL dL_law_705 ?_
  refine al_aload_n C dL_law_706 (i := 0) rfl rfl ?_
  refine al_iload_n C dL_law_707 (i := 3) rfl rfl ?_
  refine al_iconst C dL_law_708 ki_4 ?_
  refine al_iadd C dL_law_709 ?_
  refine al_sld C hX hbl (show t + 4 < L by omega) hL dL_law_710 ?_
  refine al_aload_n C dL_law_711 (i := 0) rfl rfl ?_
  refine al_iload_n C dL_law_712 (i := 3) rfl rfl ?_
  refine al_iconst C dL_law_713 ki_5 ?_
  refine al_iadd C dL_law_714 ?_
  refine al_sld C hX hbl (show t + 5 < L by omega) hL dL_law_715 ?_
  refine al_call (i := 0) (As := [.int (xs (t + 1)), .int (xs (t + 2)), .int (xs (t + 3)), .int (xs (t + 4)), .int (xs (t + 5))]) (As0 := [.int (xs (t + 5)), .int (xs (t + 4)), .int (xs (t + 3)), .int (xs (t + 2)), .int (xs (t + 1))]) (rest := [_]) C hT.sw dL_law_716 cv_L_105 (cm_eye hT.2.1 ) rfl rfl rfl ⟨Nat.le_of_ble_eq_true rfl, Nat.le_of_ble_eq_true rfl⟩ (Nat.le_of_ble_eq_true rfl) ⟨Nat.le_of_ble_eq_true rfl, Nat.le_of_ble_eq_true rfl⟩ (by decide) rfl rfl rfl (fun r9 g9 hp9 => ?_)
  obtain ⟨x2, rfl, rfl, rsp, rwi, val, ends, rd, fw, bars, ways, rfl⟩ := hp9
  refine al_sw ?_
  refine al_icmp_eq (tgt := 783) C dL_law_719 (by decide) ?_
  exact K _ _ _ _ _ _ _ _ _ _ _ _ _ _ _ _ _ hB9
set_option maxRecDepth 20000 in
theorem lc_forget {l : Launch} {D : va_G} {cy : Nat → ClassId} {z : Nat → Nat} {sA sV : Nat} {v : Value} {p : Program} {e : Env} {s : State} {m : MethodId} {args : Array Value} {below : List Frame} {meth : Method} {c : Code} {Q : State → Prop} {q1 q2 : Nat → Nat} {b L : Nat} {xs : Nat → Int32} (C : Cn p s m args meth c cL_law 4 RL D cy z sA sV v (fun a => s.heap.size ≤ a)) (hT : Tq s 49 q1 9 q2) (hX : va_X b L xs s s.heap) (hbl : b < s.heap.size) (hL : L ≤ 3072) {t : Nat} (ht : t + 6 ≤ L) {len span wires chg : Nat} {text : Nat → Nat} {h was eyes : Nat → Int32} {g1 : wS} {rsp rwi val ends : Nat} {rd fw bars ways : Nat → Int32} (hB : bwR cy q1 len span wires chg text h was eyes g1) (K : ∀ (len span wires chg : Nat) (text : Nat → Nat) (h was eyes : Nat → Int32) (g : wS) (rsp rwi val ends : Nat) (rd fw bars ways : Nat → Int32), bwR cy q1 len span wires chg text h was eyes g → AL p l e room_1 s m args below meth c D 4 Q 58 2495 49 q1 g 9 q2 (mdC cy q2 len span wires chg rsp rwi val ends text h was rd eyes fw bars ways) [(0, .ref b), (1, .ref (q1 0)), (2, .ref (q2 0)), (3, .int (nI t))] 783 []) : AL p l e room_1 s m args below meth c D 4 Q 58 2495 49 q1 g1 9 q2 (mdC cy q2 len span wires chg rsp rwi val ends text h was rd eyes fw bars ways) [(0, .ref b), (1, .ref (q1 0)), (2, .ref (q2 0)), (3, .int (nI t))] 724 [] := by
  obtain ⟨dsp, dwi, dat, pnx, vkn, dff, lbl, lsh, lpk, lett, num, lim, now, prw, plr, hgr, bk, bd, wio, wys, trl, clr, tld, tie, fst, las, saw, rfl, S9, Q9⟩ := hB
  have S8 := S9
  obtain ⟨hl, hb, hs, hs2, hw, hc, hO, hW, hK⟩ := S8
  refine al_aload_n C dL_law_724 (i := 1) rfl rfl ?_
  refine al_call (i := 0) (As := []) (As0 := []) (rest := []) C hT dL_law_725 cv_L_106 (cb_forget hT.1 S9 Q9) rfl rfl rfl ⟨Nat.le_of_ble_eq_true rfl, Nat.le_of_ble_eq_true rfl⟩ (Nat.le_of_ble_eq_true rfl) ⟨Nat.le_of_ble_eq_true rfl, Nat.le_of_ble_eq_true rfl⟩ (by decide) rfl rfl rfl (fun r9 g9 hp9 => ?_)
  obtain ⟨x1, rfl, rfl, hB9⟩ := hp9
  refine al_sw ?_
  refine al_aload_n C dL_law_728 (i := 2) rfl rfl ?_
  refine al_call (i := 0) (As := []) (As0 := []) (rest := [_]) C hT.sw dL_law_729 cv_L_109 (cm_forget hT.2.1 ) rfl rfl rfl ⟨Nat.le_of_ble_eq_true rfl, Nat.le_of_ble_eq_true rfl⟩ (Nat.le_of_ble_eq_true rfl) ⟨Nat.le_of_ble_eq_true rfl, Nat.le_of_ble_eq_true rfl⟩ (by decide) rfl rfl rfl (fun r9 g9 hp9 => ?_)
  obtain ⟨x2, rfl, rfl, rsp, rwi, val, ends, rd, fw, bars, ways, rfl⟩ := hp9
  refine al_sw ?_
  refine al_icmp_eq (tgt := 783) C dL_law_732 (by decide) ?_
  exact K _ _ _ _ _ _ _ _ _ _ _ _ _ _ _ _ _ hB9
set_option maxRecDepth 20000 in
theorem lc_explains {l : Launch} {D : va_G} {cy : Nat → ClassId} {z : Nat → Nat} {sA sV : Nat} {v : Value} {p : Program} {e : Env} {s : State} {m : MethodId} {args : Array Value} {below : List Frame} {meth : Method} {c : Code} {Q : State → Prop} {q1 q2 : Nat → Nat} {b L : Nat} {xs : Nat → Int32} (C : Cn p s m args meth c cL_law 4 RL D cy z sA sV v (fun a => s.heap.size ≤ a)) (hT : Tq s 49 q1 9 q2) (hX : va_X b L xs s s.heap) (hbl : b < s.heap.size) (hL : L ≤ 3072) {t : Nat} (ht : t + 6 ≤ L) {len span wires chg : Nat} {text : Nat → Nat} {h was eyes : Nat → Int32} {g1 : wS} {rsp rwi val ends : Nat} {rd fw bars ways : Nat → Int32} (hB : bwR cy q1 len span wires chg text h was eyes g1) (K : ∀ (len span wires chg : Nat) (text : Nat → Nat) (h was eyes : Nat → Int32) (g : wS) (rsp rwi val ends : Nat) (rd fw bars ways : Nat → Int32), bwR cy q1 len span wires chg text h was eyes g → AL p l e room_1 s m args below meth c D 4 Q 58 2495 49 q1 g 9 q2 (mdC cy q2 len span wires chg rsp rwi val ends text h was rd eyes fw bars ways) [(0, .ref b), (1, .ref (q1 0)), (2, .ref (q2 0)), (3, .int (nI t))] 783 []) : AL p l e room_1 s m args below meth c D 4 Q 58 2495 49 q1 g1 9 q2 (mdC cy q2 len span wires chg rsp rwi val ends text h was rd eyes fw bars ways) [(0, .ref b), (1, .ref (q1 0)), (2, .ref (q2 0)), (3, .int (nI t))] 737 [] := by
  obtain ⟨dsp, dwi, dat, pnx, vkn, dff, lbl, lsh, lpk, lett, num, lim, now, prw, plr, hgr, bk, bd, wio, wys, trl, clr, tld, tie, fst, las, saw, rfl, S9, Q9⟩ := hB
  have S8 := S9
  obtain ⟨hl, hb, hs, hs2, hw, hc, hO, hW, hK⟩ := S8
  refine al_aload_n C dL_law_737 (i := 1) rfl rfl ?_
  refine al_aload_n C dL_law_738 (i := 0) rfl rfl ?_
  refine al_iload_n C dL_law_739 (i := 3) rfl rfl ?_
  refine al_iconst C dL_law_740 ki_1 ?_
  refine al_iadd C dL_law_741 ?_
  refine al_sld C hX hbl (show t + 1 < L by omega) hL dL_law_742 ?_
  refine al_call (i := 0) (As := [.int (xs (t + 1))]) (As0 := [.int (xs (t + 1))]) (rest := []) C hT dL_law_743 cv_L_110 (cb_explains hT.1 S9 Q9) rfl rfl rfl ⟨Nat.le_of_ble_eq_true rfl, Nat.le_of_ble_eq_true rfl⟩ (Nat.le_of_ble_eq_true rfl) ⟨Nat.le_of_ble_eq_true rfl, Nat.le_of_ble_eq_true rfl⟩ (by decide) rfl rfl rfl (fun r9 g9 hp9 => ?_)
  obtain ⟨x1, rfl, rfl, hB9⟩ := hp9
  refine al_sw ?_
  refine al_aload_n C dL_law_746 (i := 2) rfl rfl ?_
  refine al_aload_n C dL_law_747 (i := 0) rfl rfl ?_
  refine al_iload_n C dL_law_748 (i := 3) rfl rfl ?_
  refine al_iconst C dL_law_749 ki_1 ?_
  refine al_iadd C dL_law_750 ?_
  refine al_sld C hX hbl (show t + 1 < L by omega) hL dL_law_751 ?_
  refine al_call (i := 0) (As := [.int (xs (t + 1))]) (As0 := [.int (xs (t + 1))]) (rest := [_]) C hT.sw dL_law_752 cv_L_113 (cm_explains hT.2.1 hw) rfl rfl rfl ⟨Nat.le_of_ble_eq_true rfl, Nat.le_of_ble_eq_true rfl⟩ (Nat.le_of_ble_eq_true rfl) ⟨Nat.le_of_ble_eq_true rfl, Nat.le_of_ble_eq_true rfl⟩ (by decide) rfl rfl rfl (fun r9 g9 hp9 => ?_)
  obtain ⟨rfl, rfl⟩ := hp9
  refine al_sw ?_
  refine al_icmp_eq (tgt := 783) C dL_law_755 (by decide) ?_
  exact K _ _ _ _ _ _ _ _ _ _ _ _ _ _ _ _ _ hB9
set_option maxRecDepth 20000 in
theorem lc_count {l : Launch} {D : va_G} {cy : Nat → ClassId} {z : Nat → Nat} {sA sV : Nat} {v : Value} {p : Program} {e : Env} {s : State} {m : MethodId} {args : Array Value} {below : List Frame} {meth : Method} {c : Code} {Q : State → Prop} {q1 q2 : Nat → Nat} {b L : Nat} {xs : Nat → Int32} (C : Cn p s m args meth c cL_law 4 RL D cy z sA sV v (fun a => s.heap.size ≤ a)) (hT : Tq s 49 q1 9 q2) (hX : va_X b L xs s s.heap) (hbl : b < s.heap.size) (hL : L ≤ 3072) {t : Nat} (ht : t + 6 ≤ L) {len span wires chg : Nat} {text : Nat → Nat} {h was eyes : Nat → Int32} {g1 : wS} {rsp rwi val ends : Nat} {rd fw bars ways : Nat → Int32} (hB : bwR cy q1 len span wires chg text h was eyes g1) (K : ∀ (len span wires chg : Nat) (text : Nat → Nat) (h was eyes : Nat → Int32) (g : wS) (rsp rwi val ends : Nat) (rd fw bars ways : Nat → Int32), bwR cy q1 len span wires chg text h was eyes g → AL p l e room_1 s m args below meth c D 4 Q 58 2495 49 q1 g 9 q2 (mdC cy q2 len span wires chg rsp rwi val ends text h was rd eyes fw bars ways) [(0, .ref b), (1, .ref (q1 0)), (2, .ref (q2 0)), (3, .int (nI t))] 783 []) : AL p l e room_1 s m args below meth c D 4 Q 58 2495 49 q1 g1 9 q2 (mdC cy q2 len span wires chg rsp rwi val ends text h was rd eyes fw bars ways) [(0, .ref b), (1, .ref (q1 0)), (2, .ref (q2 0)), (3, .int (nI t))] 760 [] := by
  obtain ⟨dsp, dwi, dat, pnx, vkn, dff, lbl, lsh, lpk, lett, num, lim, now, prw, plr, hgr, bk, bd, wio, wys, trl, clr, tld, tie, fst, las, saw, rfl, S9, Q9⟩ := hB
  have S8 := S9
  obtain ⟨hl, hb, hs, hs2, hw, hc, hO, hW, hK⟩ := S8
  refine al_aload_n C dL_law_760 (i := 1) rfl rfl ?_
  refine al_aload_n C dL_law_761 (i := 0) rfl rfl ?_
  refine al_iload_n C dL_law_762 (i := 3) rfl rfl ?_
  refine al_iconst C dL_law_763 ki_1 ?_
  refine al_iadd C dL_law_764 ?_
  refine al_sld C hX hbl (show t + 1 < L by omega) hL dL_law_765 ?_
  refine al_call (i := 0) (As := [.int (xs (t + 1))]) (As0 := [.int (xs (t + 1))]) (rest := []) C hT dL_law_766 cv_L_114 (cb_count hT.1 S9 Q9) rfl rfl rfl ⟨Nat.le_of_ble_eq_true rfl, Nat.le_of_ble_eq_true rfl⟩ (Nat.le_of_ble_eq_true rfl) ⟨Nat.le_of_ble_eq_true rfl, Nat.le_of_ble_eq_true rfl⟩ (by decide) rfl rfl rfl (fun r9 g9 hp9 => ?_)
  obtain ⟨x1, rfl, rfl, hB9⟩ := hp9
  refine al_sw ?_
  refine al_aload_n C dL_law_769 (i := 2) rfl rfl ?_
  refine al_aload_n C dL_law_770 (i := 0) rfl rfl ?_
  refine al_iload_n C dL_law_771 (i := 3) rfl rfl ?_
  refine al_iconst C dL_law_772 ki_1 ?_
  refine al_iadd C dL_law_773 ?_
  refine al_sld C hX hbl (show t + 1 < L by omega) hL dL_law_774 ?_
  refine al_call (i := 0) (As := [.int (xs (t + 1))]) (As0 := [.int (xs (t + 1))]) (rest := [_]) C hT.sw dL_law_775 cv_L_117 (cm_count hT.2.1 hs hs2 hw) rfl rfl rfl ⟨Nat.le_of_ble_eq_true rfl, Nat.le_of_ble_eq_true rfl⟩ (Nat.le_of_ble_eq_true rfl) ⟨Nat.le_of_ble_eq_true rfl, Nat.le_of_ble_eq_true rfl⟩ (by decide) rfl rfl rfl (fun r9 g9 hp9 => ?_)
  obtain ⟨rfl, rfl⟩ := hp9
  refine al_sw ?_
  refine al_icmp_eq (tgt := 783) C dL_law_778 (by decide) ?_
  exact K _ _ _ _ _ _ _ _ _ _ _ _ _ _ _ _ _ hB9
set_option maxRecDepth 20000 in
set_option maxHeartbeats 4000000 in
theorem law_l {l : Launch} {D : va_G} {cy : Nat → ClassId} {z : Nat → Nat} {sA sV : Nat} {v : Value} {p : Program} {e : Env} {s : State} {m : MethodId} {args : Array Value} {below : List Frame} {meth : Method} {c : Code} {Q : State → Prop} {q1 q2 : Nat → Nat} {b L : Nat} {xs : Nat → Int32} (C : Cn p s m args meth c cL_law 4 RL D cy z sA sV v (fun a => s.heap.size ≤ a)) (hT : Tq s 49 q1 9 q2) (hX : va_X b L xs s s.heap) (hbl : b < s.heap.size) (hL : L ≤ 3072) (hr : meth.sig.returnType = ret) (hlk : meth.locks = false) (hargs : args = #[Value.ref b]) (hQ : Q = lw_Z below #[Value.ref b] s) : ∀ (d t : Nat) (len span wires chg : Nat) (text : Nat → Nat) (h was eyes : Nat → Int32) (g1 : wS) (rsp rwi val ends : Nat) (rd fw bars ways : Nat → Int32), L + 6 - t < d → t ≤ L + 6 → bwR cy q1 len span wires chg text h was eyes g1 → AL p l e room_1 s m args below meth c D 4 Q 58 2495 49 q1 g1 9 q2 (mdC cy q2 len span wires chg rsp rwi val ends text h was rd eyes fw bars ways) [(0, .ref b), (1, .ref (q1 0)), (2, .ref (q2 0)), (3, .int (nI t))] 18 [] := by
  intro d
  induction d with
  | zero => intro t len span wires chg text h was eyes g1 rsp rwi val ends rd fw bars ways hd; exact absurd hd (Nat.not_lt_zero _)
  | succ d ih =>
    intro t len span wires chg text h was eyes g1 rsp rwi val ends rd fw bars ways hd ht0 hB
    refine al_iload_n C dL_law_18 (i := 3) rfl rfl ?_
    refine al_aload_n C dL_law_19 (i := 0) rfl rfl ?_
    refine al_slen C hX hbl dL_law_20 ?_
    refine al_bipush C dL_law_21 kb_6 ?_
    refine al_isub C dL_law_23 ?_
    have e1 : (nI L - nI 6).toInt = (L : Int) - 6 := pk_sub_toInt (by omega) (by omega)
    have e2 : (nI t).toInt = t := nI_toInt (by omega)
    refine al_icmp_gt (tgt := 789) C dL_law_24 (by decide) (fun hg => ?_) (fun hg => ?_)
    · refine al_iconst C dL_law_789 ki_1 ?_
      subst hargs
      subst hQ
      exact fun H locs ls hP hP2 hS hv => va_forget hS.2.2 (W.widen (k := 600000) (n := 7302250) (Nat.le_of_ble_eq_true rfl) (Nat.le_of_ble_eq_true rfl) (lw_ret C.1 C.2.1 hr hlk dL_law_790))
    · have ht : t + 6 ≤ L := by
        rw [Int32.lt_iff_toInt_lt, e1, e2] at hg
        omega
      have K : ∀ (len span wires chg : Nat) (text : Nat → Nat) (h was eyes : Nat → Int32) (g : wS) (rsp rwi val ends : Nat) (rd fw bars ways : Nat → Int32), bwR cy q1 len span wires chg text h was eyes g → AL p l e room_1 s m args below meth c D 4 Q 58 2495 49 q1 g 9 q2 (mdC cy q2 len span wires chg rsp rwi val ends text h was rd eyes fw bars ways) [(0, .ref b), (1, .ref (q1 0)), (2, .ref (q2 0)), (3, .int (nI t))] 783 [] := by
        intro len span wires chg text h was eyes g rsp rwi val ends rd fw bars ways hB
        refine al_iinc (lv' := [(0, .ref b), (1, .ref (q1 0)), (2, .ref (q2 0)), (3, .int (nI (t + 6)))]) C dL_law_783 rfl ki_6 (Nat.le_of_ble_eq_true rfl) rfl ?_
        refine al_goto (tgt := 18) C dL_law_786 (by decide) ?_
        exact ih (t + 6) len span wires chg text h was eyes g rsp rwi val ends rd fw bars ways (by omega) (by omega) hB
      refine al_aload_n C dL_law_27 (i := 0) rfl rfl ?_
      refine al_iload_n C dL_law_28 (i := 3) rfl rfl ?_
      refine al_sld C hX hbl (show t < L by omega) hL dL_law_29 ?_
      refine al_bipush C dL_law_30 kb_31 ?_
      refine al_iand C dL_law_32 ?_
      generalize xs t &&& nI 31 = x
      by_cases hsw : 0 ≤ x.toInt ∧ x.toInt ≤ 24
      · rcases (show x.toInt = 0 ∨ x.toInt = 1 ∨ x.toInt = 2 ∨ x.toInt = 3 ∨ x.toInt = 4 ∨ x.toInt = 5 ∨ x.toInt = 6 ∨ x.toInt = 7 ∨ x.toInt = 8 ∨ x.toInt = 9 ∨ x.toInt = 10 ∨ x.toInt = 11 ∨ x.toInt = 12 ∨ x.toInt = 13 ∨ x.toInt = 14 ∨ x.toInt = 15 ∨ x.toInt = 16 ∨ x.toInt = 17 ∨ x.toInt = 18 ∨ x.toInt = 19 ∨ x.toInt = 20 ∨ x.toInt = 21 ∨ x.toInt = 22 ∨ x.toInt = 23 ∨ x.toInt = 24 by omega) with hsw | hsw | hsw | hsw | hsw | hsw | hsw | hsw | hsw | hsw | hsw | hsw | hsw | hsw | hsw | hsw | hsw | hsw | hsw | hsw | hsw | hsw | hsw | hsw | hsw
        · refine al_tin (tgt := 148) (off := 115) (w := 0) C dL_law_33 hsw (by decide) (by decide) rfl (by decide) ?_
          exact lc_write C hT hX hbl hL ht hB K
        · refine al_tin (tgt := 171) (off := 138) (w := 1) C dL_law_33 hsw (by decide) (by decide) rfl (by decide) ?_
          exact lc_wipe C hT hX hbl hL ht hB K
        · refine al_tin (tgt := 184) (off := 151) (w := 2) C dL_law_33 hsw (by decide) (by decide) rfl (by decide) ?_
          exact lc_fault C hT hX hbl hL ht hB K
        · refine al_tin (tgt := 197) (off := 164) (w := 3) C dL_law_33 hsw (by decide) (by decide) rfl (by decide) ?_
          exact lc_lay C hT hX hbl hL ht hB K
        · refine al_tin (tgt := 210) (off := 177) (w := 4) C dL_law_33 hsw (by decide) (by decide) rfl (by decide) ?_
          exact lc_set C hT hX hbl hL ht hB K
        · refine al_tin (tgt := 253) (off := 220) (w := 5) C dL_law_33 hsw (by decide) (by decide) rfl (by decide) ?_
          exact lc_limit C hT hX hbl hL ht hB K
        · refine al_tin (tgt := 286) (off := 253) (w := 6) C dL_law_33 hsw (by decide) (by decide) rfl (by decide) ?_
          exact lc_shift C hT hX hbl hL ht hB K
        · refine al_tin (tgt := 309) (off := 276) (w := 7) C dL_law_33 hsw (by decide) (by decide) rfl (by decide) ?_
          exact lc_undo C hT hX hbl hL ht hB K
        · refine al_tin (tgt := 322) (off := 289) (w := 8) C dL_law_33 hsw (by decide) (by decide) rfl (by decide) ?_
          exact lc_wire C hT hX hbl hL ht hB K
        · refine al_tin (tgt := 355) (off := 322) (w := 9) C dL_law_33 hsw (by decide) (by decide) rfl (by decide) ?_
          exact lc_place C hT hX hbl hL ht hB K
        · refine al_tin (tgt := 388) (off := 355) (w := 10) C dL_law_33 hsw (by decide) (by decide) rfl (by decide) ?_
          exact lc_height C hT hX hbl hL ht hB K
        · refine al_tin (tgt := 421) (off := 388) (w := 11) C dL_law_33 hsw (by decide) (by decide) rfl (by decide) ?_
          exact lc_pair C hT hX hbl hL ht hB K
        · refine al_tin (tgt := 464) (off := 431) (w := 12) C dL_law_33 hsw (by decide) (by decide) rfl (by decide) ?_
          exact lc_bond C hT hX hbl hL ht hB K
        · refine al_tin (tgt := 487) (off := 454) (w := 13) C dL_law_33 hsw (by decide) (by decide) rfl (by decide) ?_
          exact lc_take C hT hX hbl hL ht hB K
        · refine al_tin (tgt := 510) (off := 477) (w := 14) C dL_law_33 hsw (by decide) (by decide) rfl (by decide) ?_
          exact lc_ready C hT hX hbl hL ht hB K
        · refine al_tin (tgt := 523) (off := 490) (w := 15) C dL_law_33 hsw (by decide) (by decide) rfl (by decide) ?_
          exact lc_order C hT hX hbl hL ht hB K
        · refine al_tin (tgt := 546) (off := 513) (w := 16) C dL_law_33 hsw (by decide) (by decide) rfl (by decide) ?_
          exact lc_orders C hT hX hbl hL ht hB K
        · refine al_tin (tgt := 559) (off := 526) (w := 17) C dL_law_33 hsw (by decide) (by decide) rfl (by decide) ?_
          exact lc_stuck C hT hX hbl hL ht hB K
        · refine al_tin (tgt := 572) (off := 539) (w := 18) C dL_law_33 hsw (by decide) (by decide) rfl (by decide) ?_
          exact lc_loop C hT hX hbl hL ht hB K
        · refine al_tin (tgt := 595) (off := 562) (w := 19) C dL_law_33 hsw (by decide) (by decide) rfl (by decide) ?_
          exact lc_mend C hT hX hbl hL ht hB K
        · refine al_tin (tgt := 618) (off := 585) (w := 20) C dL_law_33 hsw (by decide) (by decide) rfl (by decide) ?_
          exact lc_sees C hT hX hbl hL ht hB K
        · refine al_tin (tgt := 661) (off := 628) (w := 21) C dL_law_33 hsw (by decide) (by decide) rfl (by decide) ?_
          exact lc_eye C hT hX hbl hL ht hB K
        · refine al_tin (tgt := 724) (off := 691) (w := 22) C dL_law_33 hsw (by decide) (by decide) rfl (by decide) ?_
          exact lc_forget C hT hX hbl hL ht hB K
        · refine al_tin (tgt := 737) (off := 704) (w := 23) C dL_law_33 hsw (by decide) (by decide) rfl (by decide) ?_
          exact lc_explains C hT hX hbl hL ht hB K
        · refine al_tin (tgt := 760) (off := 727) (w := 24) C dL_law_33 hsw (by decide) (by decide) rfl (by decide) ?_
          exact lc_count C hT hX hbl hL ht hB K
      · refine al_tout (tgt := 783) C dL_law_33 (by omega) (by decide) ?_
        exact K _ _ _ _ _ _ _ _ _ _ _ _ _ _ _ _ _ hB
