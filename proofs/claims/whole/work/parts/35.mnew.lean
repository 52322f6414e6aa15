-- a row of rows of ints, made at once
def mn_o (cA : ClassId) (N h i : Nat) : Cell := arrV cA N (fun j => if j < i then .ref (h + 1 + j) else .null)
def mn_r (cI : ClassId) (M : Nat) : Cell := arrV cI M (fun _ => .int 0)
def mn_S (T : State) (cA cI : ClassId) (N M : Nat) : Nat → State
  | 0 => T.pushCell (mn_o cA N T.heap.size 0)
  | i + 1 => ((mn_S T cA cI N M i).pushCell (mn_r cI M)).setCell T.heap.size (mn_o cA N T.heap.size (i + 1))
theorem mn_o_s {cA : ClassId} {N h i : Nat} : (mn_o cA N h i).setSlot i (.ref (h + 1 + i)) = mn_o cA N h (i + 1) := by
  unfold mn_o
  rw [arrV_store]
  congr 1
  funext j
  unfold updV
  by_cases e : j = i
  · rw [if_pos e, if_pos (by omega), e]
  · rw [if_neg e]
    show (if j < i then Value.ref (h + 1 + j) else Value.null) = _
    by_cases g : j < i
    · rw [if_pos g, if_pos (by omega)]
    · rw [if_neg g, if_neg (by omega)]
theorem mn_S_s {T : State} {cA cI : ClassId} {N M i : Nat} : mn_S T cA cI N M (i + 1) = ((mn_S T cA cI N M i).pushCell (mn_r cI M)).setCell T.heap.size (mn_o cA N T.heap.size (i + 1)) := rfl
theorem mn_S_f (T : State) (cA cI : ClassId) (N M : Nat) : ∀ i, (mn_S T cA cI N M i).heap.size = T.heap.size + 1 + i ∧ (mn_S T cA cI N M i).heap[T.heap.size]? = some (mn_o cA N T.heap.size i) ∧ (mn_S T cA cI N M i).vm = T.vm ∧ (mn_S T cA cI N M i).slotsUsed = T.slotsUsed + N + i * M ∧ (∀ a : Nat, a < T.heap.size → (mn_S T cA cI N M i).heap[a]? = T.heap[a]?) ∧ ∀ j : Nat, j < i → (mn_S T cA cI N M i).heap[T.heap.size + 1 + j]? = some (mn_r cI M) := by
  intro i
  induction i with
  | zero =>
    refine ⟨?_, State.heap_pushCell_size _ _, rfl, ?_, fun a ha => State.heap_pushCell_of_lt _ _ ha, fun j hj => absurd hj (Nat.not_lt_zero j)⟩
    · simp [mn_S]
    · simp [mn_S, mn_o, arrV_size]
  | succ i ih =>
    obtain ⟨h1, h2, h3, h4, h5, h6⟩ := ih
    have hlt : T.heap.size < (mn_S T cA cI N M i).heap.size := by omega
    have hc : ((mn_S T cA cI N M i).pushCell (mn_r cI M)).heap[T.heap.size]? = some (mn_o cA N T.heap.size i) := by
      rw [State.heap_pushCell_of_lt (h := hlt)]
      exact h2
    rw [mn_S_s]
    refine ⟨?_, State.heap_setCell_self hc, ?_, ?_, fun a ha => ?_, fun j hj => ?_⟩
    · simp [State.setCell, h1]
      omega
    · simp [h3]
    · simp [h4, mn_r, arrV_size, Nat.succ_mul]
      omega
    · have hl : a < (mn_S T cA cI N M i).heap.size := by omega
      rw [State.heap_setCell_other (Nat.ne_of_gt ha), State.heap_pushCell_of_lt (h := hl)]
      exact h5 a ha
    · rw [State.heap_setCell_other (show T.heap.size ≠ T.heap.size + 1 + j by omega)]
      by_cases e : j = i
      · subst e
        rw [← h1]
        exact State.heap_pushCell_size _ _
      · have hl : T.heap.size + 1 + j < (mn_S T cA cI N M i).heap.size := by omega
        rw [State.heap_pushCell_of_lt (h := hl)]
        exact h6 j (by omega)
theorem mn_S_t (T : State) (f : JFrame) (cA cI : ClassId) (N M : Nat) : ∀ i, mn_S (T.setTop f) cA cI N M i = (mn_S T cA cI N M i).setTop f
  | 0 => rfl
  | i + 1 => by simp only [mn_S, mn_S_t T f cA cI N M i, State.heap_setTop, State.pushCell_setTop, State.setCell_setTop]
section MNEW
variable {E : CtlPost} {e : Env} {d : Bool} {acts : List Action} {s : State}
theorem mn_wp1 {cl comp : ClassId} {k : Class} {type : FieldType} {len : Nat} {x : Value} (hk : s.vm.classes[cl]? = some k) (hkind : k.kind = .array comp type) (hl : ¬ len > e.platform.arrayLengthLimit) (hh : ¬ len * componentBytes type > e.platform.maxHeapBytes) (hf : fits type x = true) (hx : x.isDefault = true) (h1 : s.heap.size < e.platform.maxCells) (h2 : s.slotsUsed + len ≤ e.platform.maxSlots) {Q : Addr → Pre} (hq : Q s.heap.size d acts (s.pushCell (arrV cl len (fun _ => x)))) : wp (Jvm.newArray cl len x) Q E e d acts s := by
  have hslot : ∀ i v, (Array.replicate len x)[i]? = some v → s.fitsSlot cl .none i v = true := fun i v hv => by
    rw [Array.getElem?_replicate] at hv
    split at hv
    · cases hv
      simp [State.fitsSlot, State.slotType?, hk, hkind, hf]
    · cases hv
  have hact : allocActs (Array.replicate len x) s.heap.size acts = acts := by
    unfold allocActs
    rw [if_pos (by rw [Array.all_replicate]; split <;> simp [hx])]
  rw [← arrV_new] at hq
  simp only [Jvm.newArray, Jvm.arrayFits, wp_bind', W.ask, W.ite, hl, if_false, wp_pure', W.theClass, hk, hkind, hh, W.alloc, W.stop, Option.some.injEq, exists_eq_left', Array.size_replicate, hact]
  rw [if_neg (by omega)]
  exact ⟨h1, h2, hslot, hq⟩
theorem mn_wp2 {cA cI cB : ClassId} {kA kI : Class} {n k : Int32} (hkA : s.vm.classes[cA]? = some kA) (hA : kA.kind = .array cI (.array .int)) (hkI : s.vm.classes[cI]? = some kI) (hI : kI.kind = .array cB .int) (hn : ¬ n < 0) (hk : ¬ k < 0) (hl1 : ¬ n.toNatClampNeg > e.platform.arrayLengthLimit) (hh1 : ¬ n.toNatClampNeg * componentBytes (.array .int) > e.platform.maxHeapBytes) (hl2 : ¬ k.toNatClampNeg > e.platform.arrayLengthLimit) (hh2 : ¬ k.toNatClampNeg * componentBytes .int > e.platform.maxHeapBytes) (hc : s.heap.size + 1 + n.toNatClampNeg ≤ e.platform.maxCells) (hs : s.slotsUsed + n.toNatClampNeg + n.toNatClampNeg * k.toNatClampNeg ≤ e.platform.maxSlots) {Q : Addr → Pre} (hq : ∀ d' acts', Q s.heap.size d' acts' (mn_S s cA cI n.toNatClampNeg k.toNatClampNeg n.toNatClampNeg)) : wp (multianewarray.make cA [n, k]) Q E e d acts s := by
  have hpos := Nat.zero_le (n.toNatClampNeg * k.toNatClampNeg)
  rw [multianewarray.make]
  simp only [wp_bind', W.ite, hn, if_false, wp_pure', W.theClass, hkA, hA, Option.some.injEq, exists_eq_left']
  refine mn_wp1 hkA hA hl1 hh1 rfl rfl (by omega) (by omega) ?_
  simp only [show ([k].find? (· < 0)) = none by simp [hk]]
  rw [ite_self, wp_bind', Std.Legacy.Range.forIn_eq_forIn_range', show ([:n.toNatClampNeg] : Std.Legacy.Range).size = n.toNatClampNeg by simp [Std.Legacy.Range.size]]
  show wp (forIn (List.range' 0 n.toNatClampNeg 1) PUnit.unit _) _ E e d acts _
  have e0 : s.pushCell (arrV cA n.toNatClampNeg fun _ => Value.null) = mn_S s cA cI n.toNatClampNeg k.toNatClampNeg 0 := by
    show _ = s.pushCell (mn_o cA n.toNatClampNeg s.heap.size 0)
    unfold mn_o
    simp only [Nat.not_lt_zero, if_false]
  rw [e0]
  refine wp_forIn_inv (fun todo t => ∃ i, i ≤ n.toNatClampNeg ∧ todo = List.range' i (n.toNatClampNeg - i) ∧ t = mn_S s cA cI n.toNatClampNeg k.toNatClampNeg i) _ _ ⟨0, Nat.zero_le _, rfl, rfl⟩ ?_ ?_
  · rintro x todo t d' acts' Q' ⟨i, hi, htodo, rfl⟩ hnext
    have hlt : i < n.toNatClampNeg := Nat.lt_of_not_le fun hge => by
      rw [show n.toNatClampNeg - i = 0 by omega] at htodo
      cases htodo
    rw [show n.toNatClampNeg - i = (n.toNatClampNeg - (i + 1)) + 1 by omega, List.range'_succ] at htodo
    obtain ⟨rfl, hrest⟩ := List.cons.inj htodo
    obtain ⟨f1, f2, f3, f4, -, -⟩ := mn_S_f s cA cI n.toNatClampNeg k.toNatClampNeg x
    have hmul : x * k.toNatClampNeg + k.toNatClampNeg ≤ n.toNatClampNeg * k.toNatClampNeg := by
      have := Nat.mul_le_mul_right k.toNatClampNeg (show x + 1 ≤ n.toNatClampNeg from hlt)
      rwa [Nat.succ_mul] at this
    have hlt0 : s.heap.size < (mn_S s cA cI n.toNatClampNeg k.toNatClampNeg x).heap.size := by omega
    simp only [wp_bind']
    rw [multianewarray.make]
    simp only [wp_bind', W.ite, hk, if_false, wp_pure', W.theClass, f3, hkI, hI, Option.some.injEq, exists_eq_left']
    refine mn_wp1 (by rw [f3]; exact hkI) hI hl2 hh2 rfl rfl (by rw [f1]; omega) (by rw [f4]; omega) ?_
    simp only [wp_bind', W.writeLoc, wp_pure']
    refine ⟨mn_o cA n.toNatClampNeg s.heap.size x, by rw [State.heap_pushCell_of_lt (h := hlt0)]; exact f2, by simp [mn_o, arrV], by simp only [mn_o, arrV_size]; exact hlt, ?_, hnext _ _ _ ⟨x + 1, hlt, hrest, ?_⟩⟩
    · simp [State.fitsSlot, State.slotType?, mn_o, arrV, f3, hkA, hA, fits]
    · rw [f1, mn_o_s]
      rfl
  · rintro t d' acts' ⟨i, hi, htodo, rfl⟩
    have hiN : i = n.toNatClampNeg := by
      rcases Nat.lt_or_ge i n.toNatClampNeg with h | h
      · rw [show n.toNatClampNeg - i = (n.toNatClampNeg - (i + 1)) + 1 by omega, List.range'_succ] at htodo
        cases htodo
      · omega
    subst hiN
    simp only [wp_pure']
    exact hq _ _
end MNEW
section MNEW2
variable {p : Program} {l : Launch} {e : Env} {R : Room} {s : State} {m : MethodId} {args : Array Value} {below : List Frame} {meth : Method} {c : Code} {locs : List Loc} {cells slots : Nat}
theorem mn_X {T : State} (X : Stand p l e R s m args below meth c T locs cells slots) (cA cI : ClassId) (N M : Nat) : ∀ i, Stand p l e R s m args below meth c (mn_S T cA cI N M i) (locs ++ (List.range i).map fun j => ⟨T.heap.size, j⟩) (cells + 1 + i) (slots + N + i * M)
  | 0 => by
    have h := X.pushed (mn_o cA N T.heap.size 0)
    rw [show (mn_o cA N T.heap.size 0).slots.size = N from arrV_size _ _ _] at h
    simpa [mn_S] using h
  | i + 1 => by
    obtain ⟨f1, f2, -⟩ := mn_S_f T cA cI N M i
    have hl : T.heap.size < (mn_S T cA cI N M i).heap.size := by omega
    have hcell : ((mn_S T cA cI N M i).pushCell (mn_r cI M)).heap[T.heap.size]? = some (mn_o cA N T.heap.size i) := by
      rw [State.heap_pushCell_of_lt (h := hl)]
      exact f2
    have h := ((mn_X X cA cI N M i).pushed (mn_r cI M)).stored hcell i (.ref (T.heap.size + 1 + i))
    rw [show (mn_r cI M).slots.size = M from arrV_size _ _ _, mn_o_s] at h
    rw [show slots + N + (i + 1) * M = slots + N + i * M + M by rw [Nat.succ_mul]; omega, List.range_succ, List.map_append, ← List.append_assoc]
    exact h
/-- the row: two counts on the stack, a row of rows made -/
theorem W.mnew {cc : ByteArray} {H : Heap} {Q : State → Prop} (hexec : p.tables.exec = Jvm.exec) (hb : c.code = cc) {own : String} {index : Nat} (hown : s.vm.findClass own = some m.cls) (hlink : (Cond.classLink own index "[[I").before args s = true) (hover : (Cond.arrayOver (.array .int)).before args s = true) (harr : (Cond.arrayClass .int).before args s = true) {g : JFrame} (hg : g.method = m) (hdg : decode cc g.pc = .ok (.multianewarray index 2, 4)) {n k : Int32} {rest : List Value} (hstack : g.stack = .int k :: .int n :: rest) (hn : ¬ n < 0) (hk : ¬ k < 0) (hb1 : n.toNatClampNeg ≤ 1000) (hb2 : k.toNatClampNeg ≤ 1000) (hcells : cells + (1 + n.toNatClampNeg) ≤ R.cells) (hslots : slots + (n.toNatClampNeg + n.toNatClampNeg * k.toNatClampNeg) ≤ R.slots)
    (kk : ∀ (cA cI : ClassId) (H1 : Heap), s.vm.findClass "[[I" = some cA → s.vm.findClass "[I" = some cI → H1.size = H.size + 1 + n.toNatClampNeg → H1[H.size]? = some (mn_o cA n.toNatClampNeg H.size n.toNatClampNeg) → (∀ a : Nat, a < H.size → H1[a]? = H[a]?) → (∀ j : Nat, j < n.toNatClampNeg → H1[H.size + 1 + j]? = some (mn_r cI k.toNatClampNeg)) → W p l e R s m args below meth c H1 (locs ++ (List.range n.toNatClampNeg).map fun j => ⟨H.size, j⟩) (cells + 1 + n.toNatClampNeg) (slots + n.toNatClampNeg + n.toNatClampNeg * k.toNatClampNeg) Q { g with pc := g.pc + 4, stack := .ref H.size :: rest }) : W p l e R s m args below meth c H locs cells slots Q g := by
  intro T hT X
  subst hT
  subst hb
  subst hg
  have hpl : e.platform.magicAccessors = ({} : Platform).magicAccessors := by rw [X.admits.platform]
  obtain ⟨comp, cA, kA, hcomp, -, hkA, hkindA, hnameA⟩ := arrayOverA_spec hover
  obtain ⟨cI, kI, cB, hcI, hkI, hkindI⟩ := Cond.arrayClass_spec harr
  have ecomp : comp = cI := Option.some.inj (hcomp.symm.trans hcI)
  subst ecomp
  obtain ⟨c0, hfc0, hcl⟩ := Cond.classLink_spec hown hlink e.platform hpl
  have hnameA' : s.vm.findClass "[[I" = some cA := hnameA
  cases hnameA'.symm.trans hfc0
  obtain ⟨hg1, hwarm1, hready1⟩ := State.classEntry (e := e) X.warmed hcl
  generalize T.vm.noted g.method.cls index (.cls cA) = vm1 at hg1 hwarm1 hready1
  obtain ⟨kA1, hkA1, heA⟩ := hwarm1.alike.2.2 _ _ hkA
  obtain ⟨kI1, hkI1, heI⟩ := hwarm1.alike.2.2 _ _ hkI
  have hkindA1 : kA1.kind = .array comp (.array .int) := by rw [heA]; exact hkindA
  have hkindI1 : kI1.kind = .array cB .int := by rw [heI]; exact hkindI
  have XF := mn_X (X.noted hwarm1) cA comp n.toNatClampNeg k.toNatClampNeg n.toNatClampNeg
  obtain ⟨hr1, hr2⟩ := X.roomAbove hcells hslots
  obtain ⟨f1, f2, -, -, f5, f6⟩ := mn_S_f (T.setVm vm1) cA comp n.toNatClampNeg k.toNatClampNeg n.toNatClampNeg
  obtain ⟨t, a1, b1⟩ := kk cA comp (mn_S (T.setVm vm1) cA comp n.toNatClampNeg k.toNatClampNeg n.toNatClampNeg).heap hnameA' hcI f1 f2 f5 f6 _ rfl XF
  refine ⟨t, ?_, b1⟩
  have hl1 : ¬ n.toNatClampNeg > e.platform.arrayLengthLimit := by rw [Launch.admits_arrayLengthLimit X.admits]; omega
  have hl2 : ¬ k.toNatClampNeg > e.platform.arrayLengthLimit := by rw [Launch.admits_arrayLengthLimit X.admits]; omega
  have hh1 : ¬ n.toNatClampNeg * componentBytes (.array .int) > e.platform.maxHeapBytes := by rw [Launch.admits_maxHeapBytes X.admits]; show ¬ n.toNatClampNeg * 4 > 536870912; omega
  have hh2 : ¬ k.toNatClampNeg * componentBytes .int > e.platform.maxHeapBytes := by rw [Launch.admits_maxHeapBytes X.admits]; show ¬ k.toNatClampNeg * 4 > 536870912; omega
  jvm_step X.here [hexec, hdg]
  simp only [multianewarray.sem, wp_bind', W.resolveClassAt_links (State.method?_setTop g X.here.top) hg1]
  rw [W.popN, if_neg (by decide)]
  refine ⟨g, State.topJava?_setTop' (s := T.setVm vm1) g X.here.top, [.int n, .int k], rest, rfl, hstack, ?_⟩
  simp only [List.mapM_cons, List.mapM_nil, wp_bind', wp_pure']
  refine mn_wp2 (kA := kA1) (kI := kI1) (cB := cB) hkA1 hkindA1 hkI1 hkindI1 hn hk hl1 hh1 hl2 hh2 (by show T.heap.size + 1 + _ ≤ _; omega) (by show T.slotsUsed + _ + _ ≤ _; omega) (fun d' acts' => ?_)
  have eS : ((T.setTop g).setVm vm1).setTop { g with stack := rest } = (T.setVm vm1).setTop { g with stack := rest } := by
    show ((T.setVm vm1).setTop g).setTop _ = _
    rw [State.setTop_setTop]
  rw [eS, mn_S_t]
  simp only [wp_bind', W.mark, W.pushRef, State.topJava?_setTop' _ XF.here.top, Option.some.injEq, exists_eq_left', State.setTop_setTop, State.heap_setTop]
  intro acts
  simp [jvm, XF.here.top]
  exact a1
end MNEW2
