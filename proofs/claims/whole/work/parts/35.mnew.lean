-- a row of rows of ints: each piece of the machine's work told by what it gives and by where it ends; the standing goes along
def mn_o (cA : ClassId) (N h i : Nat) : Cell := arrV cA N (fun j => if j < i then .ref (h + 1 + j) else .null)
def mn_r (cI : ClassId) (M : Nat) : Cell := arrV cI M (fun _ => .int 0)
theorem mn_o_put {cA : ClassId} {N h i : Nat} : (mn_o cA N h i).setSlot i (.ref (h + 1 + i)) = mn_o cA N h (i + 1) := by
  show (arrV _ _ _).setSlot _ _ = arrV _ _ _
  rw [arrV_store]
  refine congrArg (arrV cA N) (funext fun j => ?_)
  show (if j = i then Value.ref (h + 1 + i) else if j < i then Value.ref (h + 1 + j) else Value.null) = if j < i + 1 then Value.ref (h + 1 + j) else Value.null
  rcases Nat.lt_trichotomy j i with g | g | g
  · rw [if_neg (by omega), if_pos g, if_pos (by omega)]
  · rw [if_pos g, if_pos (by omega), g]
  · rw [if_neg (by omega), if_neg (by omega), if_neg (by omega)]
/-- over the heap H0 stand the row of rows, i of its places told, and i rows behind it -/
def mn_P (H0 : Heap) (cA cI : ClassId) (N M i : Nat) (H : Heap) : Prop := H.size = H0.size + (1 + i) ∧ ∀ a : Nat, a < H0.size + (1 + i) → H[a]? = if a < H0.size then H0[a]? else some (if a = H0.size then mn_o cA N H0.size i else mn_r cI M)
section MNEWP
variable {H0 H : Heap} {cA cI : ClassId} {N M i : Nat}
theorem mn_P.one : mn_P H0 cA cI N M 0 (H0.push (mn_o cA N H0.size 0)) := by
  refine ⟨Array.size_push _, fun a ha => ?_⟩
  rw [Array.getElem?_push]
  by_cases e : a = H0.size
  · rw [if_pos e, if_neg (by omega), if_pos e]
  · rw [if_neg e, if_pos (by omega)]
theorem mn_P.more (h : mn_P H0 cA cI N M i H) : mn_P H0 cA cI N M (i + 1) ((H.push (mn_r cI M)).setIfInBounds H0.size (mn_o cA N H0.size (i + 1))) := by
  obtain ⟨z, r⟩ := h
  refine ⟨by rw [Array.size_setIfInBounds, Array.size_push, z]; omega, fun a ha => ?_⟩
  rw [Array.getElem?_setIfInBounds, Array.getElem?_push, Array.size_push, z]
  by_cases e : H0.size = a
  · rw [if_pos e, if_pos (by omega), if_neg (by omega), if_pos e.symm]
  · rw [if_neg e]
    by_cases g : a = H0.size + (1 + i)
    · rw [if_pos g, if_neg (by omega), if_neg (by omega)]
    · rw [if_neg g, r a (by omega), if_neg (Ne.symm e), if_neg (Ne.symm e)]
theorem mn_P.top (h : mn_P H0 cA cI N M i H) : H[H0.size]? = some (mn_o cA N H0.size i) := by rw [h.2 _ (by omega), if_neg (by omega), if_pos rfl]
theorem mn_P.old (h : mn_P H0 cA cI N M i H) {a : Nat} (ha : a < H0.size) : H[a]? = H0[a]? := by rw [h.2 _ (by omega), if_pos ha]
theorem mn_P.row (h : mn_P H0 cA cI N M i H) {j : Nat} (hj : j < i) : H[H0.size + 1 + j]? = some (mn_r cI M) := by rw [h.2 _ (by omega), if_neg (by omega), if_neg (by omega)]
end MNEWP
/-- t, begun at V with the frame fr on top, gives a and ends at U -/
def mn_G {α : Type} (e : Env) (fr : JFrame) (t : Sem α) (V : State) (a : α) (U : State) : Prop := ∀ (E : CtlPost) (Q : α → Pre), (∀ d acts, Q a d acts (U.setTop fr)) → ∀ d acts, wp t Q E e d acts (V.setTop fr)
section MNEWG
variable {e : Env} {fr : JFrame} {V U Z : State}
theorem mn_G.ret {α : Type} {a : α} : mn_G e fr (Pure.pure a) V a V := fun E Q hQ d acts => hQ d acts
theorem mn_G.seq {α β : Type} {t : Sem α} {g : α → Sem β} {a : α} {b : β} (h1 : mn_G e fr t V a U) (h2 : mn_G e fr (g a) U b Z) : mn_G e fr (t >>= g) V b Z := fun E Q hQ d acts => by
  rw [wp_bind']
  exact h1 E _ (h2 E Q hQ) d acts
theorem mn_G.put {a i : Nat} {v : Value} {cell : Cell} (h : V.heap[a]? = some cell) (hu : cell.vm ≠ .unknown) (hi : i < cell.slots.size) (hf : V.fitsSlot cell.cls cell.vm i v = true) : mn_G e fr (Jvm.writeLoc a i v) V () (V.setCell a (cell.setSlot i v)) := fun E Q hQ d acts => (W.writeLoc _ _ _ _).mpr ⟨cell, h, hu, hi, hf, hQ _ _⟩
/-- a count from i on: each turn ends somewhere where J holds of the next -/
theorem mn_G.count {f : Nat → PUnit → Sem (ForInStep PUnit)} {J : Nat → State → Prop} {N : Nat} (hf : ∀ (i : Nat) (V : State), i < N → J i V → ∃ U, J (i + 1) U ∧ mn_G e fr (f i PUnit.unit) V (ForInStep.yield PUnit.unit) U) : ∀ (r i : Nat) (V : State), i + r = N → J i V → ∃ U, J N U ∧ mn_G e fr (forIn (List.range' i r 1) PUnit.unit f) V PUnit.unit U
  | 0, i, V, h, j => ⟨V, by rw [← h]; exact j, by rw [List.range'_zero, List.forIn_nil]; exact mn_G.ret⟩
  | r + 1, i, V, h, j => by
    obtain ⟨U, jU, gU⟩ := hf i V (by omega) j
    obtain ⟨Z, jZ, gZ⟩ := mn_G.count hf r (i + 1) U (by omega) jU
    refine ⟨Z, jZ, ?_⟩
    rw [List.range'_succ, List.forIn_cons]
    exact gU.seq gZ
end MNEWG
section MNEW
variable {p : Program} {l : Launch} {e : Env} {R : Room} {s : State} {m : MethodId} {args : Array Value} {below : List Frame} {meth : Method} {c : Code} {locs ls : List Loc} {cells slots k n : Nat} {fr : JFrame} {V : State} {cA cI cB : ClassId} {kA kI : Class} {N M : Nat}
/-- one array, where the walk stands -/
theorem mn_arr (X : Stand p l e R s m args below meth c V ls k n) {q comp : ClassId} {kq : Class} {ty : FieldType} {len : Nat} {x : Value} (hq : s.vm.classes[q]? = some kq ∧ kq.kind = .array comp ty) (hb : componentBytes ty = 4 ∧ fits ty x = true) (hl : len ≤ 1000) (hk : k + 1 ≤ R.cells) (hn : n + len ≤ R.slots) : mn_G e fr (Jvm.newArray q len x) V V.heap.size (V.pushCell (arrV q len fun _ => x)) := fun E Q hQ d acts => by
  obtain ⟨r1, r2⟩ := X.roomAbove hk hn
  obtain ⟨kV, hkV, hbare⟩ := X.warmed.alike.2.2 _ _ hq.1
  have hV : kV.kind = .array comp ty := by rw [hbare]; exact hq.2
  have h1 : ¬ len > e.platform.arrayLengthLimit := by rw [Launch.admits_arrayLengthLimit X.admits]; omega
  have h2 : ¬ len * componentBytes ty > e.platform.maxHeapBytes := by rw [Launch.admits_maxHeapBytes X.admits, hb.1]; omega
  have h3 : ¬ len > e.platform.maxSlots := by omega
  simp only [Jvm.newArray, Jvm.arrayFits, wp_bind', wp_pure', W.ask, W.ite, W.theClass, State.vm_setTop, hkV, hV, h1, h2, h3, if_false, Option.some.injEq, exists_eq_left']
  refine (W.alloc _ _ _).mpr ⟨r1, by rw [Array.size_replicate]; exact r2, fun i v hv => ?_, ?_⟩
  · rw [Array.getElem?_eq_some_iff] at hv
    obtain ⟨hi, rfl⟩ := hv
    rw [Array.getElem_replicate]
    simp [State.fitsSlot, State.slotType?, hkV, hV, hb.2]
  · rw [arrV_new]
    exact hQ _ _
/-- i rows made, and the walk stands -/
def mn_J (p : Program) (l : Launch) (e : Env) (R : Room) (s : State) (m : MethodId) (args : Array Value) (below : List Frame) (meth : Method) (c : Code) (H0 : Heap) (cA cI : ClassId) (N M : Nat) (locs : List Loc) (k n : Nat) (i : Nat) (V : State) : Prop := mn_P H0 cA cI N M i V.heap ∧ ∃ ls : List Loc, (∀ q ∈ ls, q ∈ locs ∨ q.base = H0.size) ∧ Stand p l e R s m args below meth c V ls (k + (1 + i)) (n + (N + i * M))
theorem mn_turn {H0 : Heap} {i : Nat} {b : Int32} (J : mn_J p l e R s m args below meth c H0 cA cI N M locs k n i V) (hA : s.vm.classes[cA]? = some kA ∧ kA.kind = .array cI (.array .int)) (hI : s.vm.classes[cI]? = some kI ∧ kI.kind = .array cB .int) (hb : ¬ b < 0) (hM : b.toNatClampNeg = M) (hl : M ≤ 1000) (hi : i < N) (hk : k + (1 + N) ≤ R.cells) (hn : n + (N + N * M) ≤ R.slots) : ∃ U, mn_J p l e R s m args below meth c H0 cA cI N M locs k n (i + 1) U ∧ ∃ a, mn_G e fr (multianewarray.make cI [b]) V a (V.pushCell (mn_r cI M)) ∧ mn_G e fr (Jvm.writeLoc H0.size i (.ref a)) (V.pushCell (mn_r cI M)) () U := by
  obtain ⟨hP, ls, hls, X⟩ := J
  have hm : i * M + M ≤ N * M := by rw [← Nat.succ_mul]; exact Nat.mul_le_mul_right M hi
  obtain ⟨kV, hkV, hbare⟩ := X.warmed.alike.2.2 _ _ hI.1
  have hV : kV.kind = .array cB .int := by rw [hbare]; exact hI.2
  have g1 : mn_G e fr (Jvm.newArray cI M (.int 0)) V V.heap.size (V.pushCell (mn_r cI M)) := mn_arr X hI ⟨rfl, rfl⟩ hl (by omega) (by omega)
  have X1 := X.pushed (mn_r cI M)
  rw [show (mn_r cI M).slots.size = M from arrV_size _ _ _] at X1
  have hc : (V.pushCell (mn_r cI M)).heap[H0.size]? = some (mn_o cA N H0.size i) := by
    have hlt : H0.size < V.heap.size := by rw [hP.1]; omega
    rw [State.heap_pushCell_of_lt (h := hlt)]
    exact hP.top
  obtain ⟨kW, hkW, hbareW⟩ := X.warmed.alike.2.2 _ _ hA.1
  have hW : kW.kind = .array cI (.array .int) := by rw [hbareW]; exact hA.2
  have X2 := X1.stored hc i (.ref V.heap.size)
  have g2 := mn_G.put (e := e) (fr := fr) (v := .ref V.heap.size) hc (fun h => nomatch h) (by rw [show (mn_o cA N H0.size i).slots.size = N from arrV_size _ _ _]; exact hi) (by simp [State.fitsSlot, State.slotType?, mn_o, arrV, hkW, hW, fits])
  have ez : V.heap.size = H0.size + 1 + i := by rw [hP.1]; omega
  refine ⟨_, ⟨?_, ls ++ [⟨H0.size, i⟩], fun q hq => ?_, ?_⟩, V.heap.size, fun E Q hQ d acts => ?_, g2⟩
  · rw [ez, mn_o_put]
    exact hP.more
  · rcases List.mem_append.mp hq with h | h
    · exact hls q h
    · rw [List.mem_singleton.mp h]
      exact Or.inr rfl
  · rw [show k + (1 + (i + 1)) = k + (1 + i) + 1 by omega, show n + (N + (i + 1) * M) = n + (N + i * M) + M by rw [Nat.succ_mul]; omega]
    exact X2
  · unfold multianewarray.make
    simp only [wp_bind', W.ite, hb, if_false, wp_pure', W.theClass, State.vm_setTop, hkV, hV, Option.some.injEq, exists_eq_left', hM]
    exact g1 E Q hQ d acts
/-- the row of rows -/
theorem mn_all {a b : Int32} (X : Stand p l e R s m args below meth c V locs k n) (hA : s.vm.classes[cA]? = some kA ∧ kA.kind = .array cI (.array .int)) (hI : s.vm.classes[cI]? = some kI ∧ kI.kind = .array cB .int) (ha : ¬ a < 0) (hb : ¬ b < 0) (hN : a.toNatClampNeg = N) (hM : b.toNatClampNeg = M) (lN : N ≤ 1000) (lM : M ≤ 1000) (hk : k + (1 + N) ≤ R.cells) (hn : n + (N + N * M) ≤ R.slots) : ∃ U, mn_J p l e R s m args below meth c V.heap cA cI N M locs k n N U ∧ mn_G e fr (multianewarray.make cA [a, b]) V V.heap.size U := by
  have o0 : (arrV cA N fun _ => Value.null) = mn_o cA N V.heap.size 0 := congrArg (arrV cA N) (funext fun j => (if_neg (Nat.not_lt_zero j)).symm)
  have g0 : mn_G e fr (Jvm.newArray cA N .null) V V.heap.size (V.pushCell (mn_o cA N V.heap.size 0)) := by
    rw [← o0]
    exact mn_arr X hA ⟨rfl, rfl⟩ lN (by omega) (by omega)
  have X0 := X.pushed (mn_o cA N V.heap.size 0)
  rw [show (mn_o cA N V.heap.size 0).slots.size = N from arrV_size _ _ _] at X0
  obtain ⟨U, jU, gU⟩ := mn_G.count (e := e) (fr := fr) (N := N) (f := fun i _ => do
      let x ← multianewarray.make cI [b]
      Jvm.writeLoc V.heap.size i (.ref x)
      Pure.pure (ForInStep.yield PUnit.unit)) (J := mn_J p l e R s m args below meth c V.heap cA cI N M locs k n) (fun i T hi jT => by
        obtain ⟨Z, jZ, x, u1, u2⟩ := mn_turn (fr := fr) jT hA hI hb hM lM hi hk hn
        exact ⟨Z, jZ, u1.seq (u2.seq mn_G.ret)⟩) N 0 (V.pushCell (mn_o cA N V.heap.size 0)) (Nat.zero_add N) ⟨mn_P.one, locs, fun q hq => Or.inl hq, by rw [Nat.zero_mul]; exact X0⟩
  obtain ⟨kV, hkV, hbare⟩ := X.warmed.alike.2.2 _ _ hA.1
  have hV : kV.kind = .array cI (.array .int) := by rw [hbare]; exact hA.2
  refine ⟨U, jU, fun E Q hQ d acts => ?_⟩
  unfold multianewarray.make
  simp only [wp_bind', W.ite, ha, if_false, wp_pure', W.theClass, State.vm_setTop, hkV, hV, Option.some.injEq, exists_eq_left', hN]
  refine g0 E _ (fun d acts => ?_) d acts
  simp only [List.find?_cons, List.find?_nil, hb, decide_false, ite_self, wp_bind', wp_pure', Std.Legacy.Range.forIn_eq_forIn_range', Std.Legacy.Range.size, Nat.sub_zero, Nat.add_sub_cancel, Nat.div_one]
  exact gU E _ (fun d acts => hQ d acts) d acts
/-- the row for the instruction -/
theorem W.mnew {cc : ByteArray} {H : Heap} {Q : State → Prop} (hexec : p.tables.exec = Jvm.exec) (hb : c.code = cc) {own : String} {index : Nat} (hown : s.vm.findClass own = some m.cls) (hlink : (Cond.classLink own index "[[I").before args s = true) (hover : (Cond.arrayOver (.array .int)).before args s = true) (harr : (Cond.arrayClass .int).before args s = true) {pc : Nat} {lv : Array Slot} (hdg : decode cc pc = .ok (.multianewarray index 2, 4)) {a b : Int32} {rest : List Value} (ha : ¬ a < 0) (hbb : ¬ b < 0) (hN : a.toNatClampNeg = N) (hM : b.toNatClampNeg = M) (lN : N ≤ 1000) (lM : M ≤ 1000) (hk : cells + (1 + N) ≤ R.cells) (hn : slots + (N + N * M) ≤ R.slots)
    (kk : ∀ (cA cI : ClassId) (H1 : Heap) (ls : List Loc), s.vm.findClass "[[I" = some cA → s.vm.findClass "[I" = some cI → mn_P H cA cI N M N H1 → (∀ q ∈ ls, q ∈ locs ∨ q.base = H.size) → W p l e R s m args below meth c H1 ls (cells + (1 + N)) (slots + (N + N * M)) Q (F0 m (pc + 4) lv (.ref H.size :: rest))) : W p l e R s m args below meth c H locs cells slots Q (F0 m pc lv (.int b :: .int a :: rest)) := by
  rintro T rfl X
  subst hb
  obtain ⟨cI, cA, kA, hcI, -, hkA, hkindA, hnA⟩ := arrayOverA_spec hover
  obtain ⟨cI', kI, cB, hcI', hkI, hkindI⟩ := Cond.arrayClass_spec harr
  obtain rfl : cI = cI' := Option.some.inj (hcI.symm.trans hcI')
  obtain ⟨cL, hcL, hlk⟩ := Cond.classLink_spec hown hlink e.platform (by rw [X.admits.platform])
  obtain rfl : cA = cL := Option.some.inj (hnA.symm.trans hcL)
  obtain ⟨hres, hwarm, -⟩ := State.classEntry (e := e) X.warmed hlk
  obtain ⟨U, ⟨hP, ls, hls, XU⟩, gU⟩ := mn_all (fr := F0 m pc lv rest) (X.noted hwarm) ⟨hkA, hkindA⟩ ⟨hkI, hkindI⟩ ha hbb hN hM lN lM hk hn
  obtain ⟨t, h1, h2⟩ := kk cA cI U.heap ls hcL hcI hP hls U rfl XU
  refine ⟨t, ?_, h2⟩
  jvm_step X.here [hexec, hdg]
  unfold multianewarray.sem
  have hat : (T.setTop (F0 m pc lv (.int b :: .int a :: rest))).method? = some m := State.method?_setTop _ X.here.top
  rw [wp_bind', W.resolveClassAt_links hat hres, wp_bind', W.popN, if_neg (by decide)]
  have htop : ((T.setTop (F0 m pc lv (.int b :: .int a :: rest))).setVm (T.vm.noted m.cls index (.cls cA))).topJava? = some (F0 m pc lv (.int b :: .int a :: rest)) := State.topJava?_setTop' (s := T.setVm (T.vm.noted m.cls index (.cls cA))) _ X.here.top
  refine ⟨_, htop, [.int a, .int b], rest, rfl, rfl, ?_⟩
  have hst : ((T.setTop (F0 m pc lv (.int b :: .int a :: rest))).setVm (T.vm.noted m.cls index (.cls cA))).setTop (F0 m pc lv rest) = (T.setVm (T.vm.noted m.cls index (.cls cA))).setTop (F0 m pc lv rest) := State.setTop_setTop (T.setVm (T.vm.noted m.cls index (.cls cA))) _ _
  refine hst ▸ ?_
  simp only [List.mapM_cons, List.mapM_nil, wp_bind', wp_pure']
  refine gU _ _ (fun d acts => ?_) _ _
  rw [wp_bind', W.mark, W.pushRef]
  refine ⟨_, State.topJava?_setTop' _ XU.here.top, ?_⟩
  rw [State.setTop_setTop]
  intro acts
  simp [jvm, XU.here.top]
  exact h1
end MNEW
