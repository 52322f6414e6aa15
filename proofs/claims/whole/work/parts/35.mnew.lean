-- a row of rows of ints, made at once
def mn_o (cA : ClassId) (N h i : Nat) : Cell := arrV cA N (fun j => if j < i then .ref (h + 1 + j) else .null)
def mn_r (cI : ClassId) (M : Nat) : Cell := arrV cI M (fun _ => .int 0)
def mn_S (T : State) (cA cI : ClassId) (N M : Nat) : Nat → State
  | 0 => T.pushCell (mn_o cA N T.heap.size 0)
  | i + 1 => ((mn_S T cA cI N M i).pushCell (mn_r cI M)).setCell T.heap.size (mn_o cA N T.heap.size (i + 1))
theorem mn_o_s {cA : ClassId} {N h i : Nat} : (mn_o cA N h i).setSlot i (.ref (h + 1 + i)) = mn_o cA N h (i + 1) := by
  unfold mn_o
  rw [arrV_store]
  congr 1
  funext j
  unfold updV
  by_cases e : j = i
  · rw [if_pos e, if_pos (by omega), e]
  · rw [if_neg e]
    show (if j < i then Value.ref (h + 1 + j) else Value.null) = _
    by_cases g : j < i
    · rw [if_pos g, if_pos (by omega)]
    · rw [if_neg g, if_neg (by omega)]
theorem mn_S_s {T : State} {cA cI : ClassId} {N M i : Nat} : mn_S T cA cI N M (i + 1) = ((mn_S T cA cI N M i).pushCell (mn_r cI M)).setCell T.heap.size (mn_o cA N T.heap.size (i + 1)) := rfl
theorem mn_S_f (T : State) (cA cI : ClassId) (N M : Nat) : ∀ i, (mn_S T cA cI N M i).heap.size = T.heap.size + 1 + i ∧ (mn_S T cA cI N M i).heap[T.heap.size]? = some (mn_o cA N T.heap.size i) ∧ (mn_S T cA cI N M i).vm = T.vm ∧ (mn_S T cA cI N M i).slotsUsed = T.slotsUsed + N + i * M ∧ (∀ a : Nat, a < T.heap.size → (mn_S T cA cI N M i).heap[a]? = T.heap[a]?) ∧ ∀ j : Nat, j < i → (mn_S T cA cI N M i).heap[T.heap.size + 1 + j]? = some (mn_r cI M) := by
  intro i
  induction i with
  | zero =>
    refine ⟨?_, State.heap_pushCell_size _ _, rfl, ?_, fun a ha => State.heap_pushCell_of_lt _ _ ha, fun j hj => absurd hj (Nat.not_lt_zero j)⟩
    · simp [mn_S]
    · simp [mn_S, mn_o, arrV_size]
  | succ i ih =>
    obtain ⟨h1, h2, h3, h4, h5, h6⟩ := ih
    have hlt : T.heap.size < (mn_S T cA cI N M i).heap.size := by omega
    have hc : ((mn_S T cA cI N M i).pushCell (mn_r cI M)).heap[T.heap.size]? = some (mn_o cA N T.heap.size i) := by
      rw [State.heap_pushCell_of_lt (h := hlt)]
      exact h2
    rw [mn_S_s]
    refine ⟨?_, State.heap_setCell_self hc, ?_, ?_, fun a ha => ?_, fun j hj => ?_⟩
    · simp [State.setCell, h1]
      omega
    · simp [h3]
    · simp [h4, mn_r, arrV_size, Nat.succ_mul]
      omega
    · have hl : a < (mn_S T cA cI N M i).heap.size := by omega
      rw [State.heap_setCell_other (Nat.ne_of_gt ha), State.heap_pushCell_of_lt (h := hl)]
      exact h5 a ha
    · rw [State.heap_setCell_other (show T.heap.size ≠ T.heap.size + 1 + j by omega)]
      by_cases e : j = i
      · subst e
        rw [← h1]
        exact State.heap_pushCell_size _ _
      · have hl : T.heap.size + 1 + j < (mn_S T cA cI N M i).heap.size := by omega
        rw [State.heap_pushCell_of_lt (h := hl)]
        exact h6 j (by omega)
theorem mn_S_t (T : State) (f : JFrame) (cA cI : ClassId) (N M : Nat) : ∀ i, mn_S (T.setTop f) cA cI N M i = (mn_S T cA cI N M i).setTop f
  | 0 => rfl
  | i + 1 => by simp only [mn_S, mn_S_t T f cA cI N M i, State.heap_setTop, State.pushCell_setTop, State.setCell_setTop]
section MNEW
variable {E : CtlPost} {e : Env} {s : State}
/-- what the machine asks of a length; room for one more row -/
def mn_fit (e : Env) (ty : FieldType) (len : Nat) : Prop := ¬ len > e.platform.arrayLengthLimit ∧ ¬ len * componentBytes ty > e.platform.maxHeapBytes
def mn_room (e : Env) (s : State) (len : Nat) : Prop := s.heap.size < e.platform.maxCells ∧ s.slotsUsed + len ≤ e.platform.maxSlots
/-- one row -/
theorem mn_row {cl comp : ClassId} {kl : Class} {ty : FieldType} {len : Nat} {x : Value} (hk : s.vm.classes[cl]? = some kl ∧ kl.kind = .array comp ty) (hf : mn_fit e ty len) (hx : fits ty x = true) (hr : mn_room e s len) {Q : Addr → Pre} (hq : ∀ d acts, Q s.heap.size d acts (s.pushCell (arrV cl len (fun _ => x)))) : ∀ d acts, wp (Jvm.newArray cl len x) Q E e d acts s := by
  intro d acts
  obtain ⟨hk1, hk2⟩ := hk
  obtain ⟨hf1, hf2⟩ := hf
  have hslots : ¬ len > e.platform.maxSlots := by have := hr.2; omega
  unfold Jvm.newArray Jvm.arrayFits
  simp only [wp_bind', W.ask, W.ite, hf1, if_false, wp_pure', W.theClass, hk1, hk2, hf2, hslots, Option.some.injEq, exists_eq_left']
  refine (W.alloc _ _ _).mpr ⟨hr.1, by rw [Array.size_replicate]; exact hr.2, fun i w hw => ?_, ?_⟩
  · have hw2 : w = x := by
      rw [Array.getElem?_replicate] at hw
      by_cases hi : i < len
      · rw [if_pos hi] at hw; exact (Option.some.inj hw).symm
      · rw [if_neg hi] at hw; cases hw
    rw [hw2]
    simp [State.fitsSlot, State.slotType?, hk1, hk2, hx]
  · rw [arrV_new]
    exact hq _ _
/-- a loop that goes from one told state to the next -/
theorem mn_for {f : Nat → PUnit → Sem (ForInStep PUnit)} {T : Nat → State} {N : Nat} (hstep : ∀ i, i < N → ∀ (Q' : ForInStep PUnit → Pre), (∀ d acts, Q' (ForInStep.yield PUnit.unit) d acts (T (i + 1))) → ∀ d acts, wp (f i PUnit.unit) Q' E e d acts (T i)) {Q : PUnit → Pre} (hq : ∀ d acts, Q PUnit.unit d acts (T N)) : ∀ (r i : Nat), i + r = N → ∀ d acts, wp (forIn (List.range' i r 1) PUnit.unit f) Q E e d acts (T i) := by
  intro r
  induction r with
  | zero =>
    intro i hi d acts
    obtain rfl : i = N := by omega
    rw [List.range'_zero, List.forIn_nil, wp_pure']
    exact hq d acts
  | succ r ih =>
    intro i hi d acts
    rw [List.range'_succ, List.forIn_cons, wp_bind']
    exact hstep i (by omega) _ (fun d2 acts2 => ih (i + 1) (by omega) d2 acts2) d acts
/-- a row of rows -/
theorem mn_all {cA cI cB : ClassId} {kA kI : Class} {n k : Int32} (hA : s.vm.classes[cA]? = some kA ∧ kA.kind = .array cI (.array .int)) (hI : s.vm.classes[cI]? = some kI ∧ kI.kind = .array cB .int) (hn : ¬ n < 0) (hk : ¬ k < 0) (hf1 : mn_fit e (.array .int) n.toNatClampNeg) (hf2 : mn_fit e .int k.toNatClampNeg) (hc : s.heap.size + 1 + n.toNatClampNeg ≤ e.platform.maxCells) (hs : s.slotsUsed + n.toNatClampNeg + n.toNatClampNeg * k.toNatClampNeg ≤ e.platform.maxSlots) {Q : Addr → Pre} (hq : ∀ d acts, Q s.heap.size d acts (mn_S s cA cI n.toNatClampNeg k.toNatClampNeg n.toNatClampNeg)) : ∀ d acts, wp (multianewarray.make cA [n, k]) Q E e d acts s := by
  intro d acts
  have hpos := Nat.zero_le (n.toNatClampNeg * k.toNatClampNeg)
  have hnone : List.find? (fun x => decide (x < 0)) [k] = none := by rw [List.find?_cons_of_neg (by simp [hk]), List.find?_nil]
  have h0 : s.pushCell (arrV cA n.toNatClampNeg fun _ => Value.null) = mn_S s cA cI n.toNatClampNeg k.toNatClampNeg 0 := by
    show _ = s.pushCell (mn_o cA n.toNatClampNeg s.heap.size 0)
    unfold mn_o
    simp only [Nat.not_lt_zero, if_false]
  unfold multianewarray.make
  simp only [wp_bind', W.ite, hn, if_false, wp_pure', W.theClass, hA.1, hA.2, Option.some.injEq, exists_eq_left']
  refine mn_row hA hf1 rfl ⟨by omega, by omega⟩ (fun d acts => ?_) d acts
  rw [h0]
  simp only [hnone, ite_self, wp_bind', Std.Legacy.Range.forIn_eq_forIn_range', Std.Legacy.Range.size, Nat.sub_zero, Nat.add_sub_cancel, Nat.div_one]
  refine mn_for (T := mn_S s cA cI n.toNatClampNeg k.toNatClampNeg) (N := n.toNatClampNeg) (fun i hi Q' hnext d acts => ?_) (fun d acts => ?_) n.toNatClampNeg 0 (Nat.zero_add _) d acts
  · obtain ⟨f1, f2, f3, f4, -, -⟩ := mn_S_f s cA cI n.toNatClampNeg k.toNatClampNeg i
    have hlt0 : s.heap.size < (mn_S s cA cI n.toNatClampNeg k.toNatClampNeg i).heap.size := by omega
    have hmul : i * k.toNatClampNeg + k.toNatClampNeg ≤ n.toNatClampNeg * k.toNatClampNeg := by
      have := Nat.mul_le_mul_right k.toNatClampNeg (show i + 1 ≤ n.toNatClampNeg from hi)
      rwa [Nat.succ_mul] at this
    have hI2 : (mn_S s cA cI n.toNatClampNeg k.toNatClampNeg i).vm.classes[cI]? = some kI ∧ kI.kind = .array cB .int := by rw [f3]; exact hI
    unfold multianewarray.make
    simp only [wp_bind', W.ite, hk, if_false, wp_pure', W.theClass, hI2.1, hI2.2, Option.some.injEq, exists_eq_left']
    refine mn_row hI2 hf2 rfl ⟨by omega, by rw [f4]; omega⟩ (fun d acts => ?_) d acts
    rw [wp_bind']
    refine (W.writeLoc _ _ _ _).mpr ⟨mn_o cA n.toNatClampNeg s.heap.size i, ?_, (fun h => (by cases h)), ?_, ?_, ?_⟩
    · rw [State.heap_pushCell_of_lt (h := hlt0)]
      exact f2
    · rw [show (mn_o cA n.toNatClampNeg s.heap.size i).slots.size = n.toNatClampNeg from arrV_size _ _ _]
      exact hi
    · simp [State.fitsSlot, State.slotType?, mn_o, arrV, f3, hA.1, hA.2, fits]
    · rw [f1, mn_o_s, wp_pure']
      exact hnext _ _
  · exact hq d acts
end MNEW
section MNEW2
variable {p : Program} {l : Launch} {e : Env} {R : Room} {s : State} {m : MethodId} {args : Array Value} {below : List Frame} {meth : Method} {c : Code} {locs : List Loc} {cells slots : Nat}
theorem mn_X {T : State} (X : Stand p l e R s m args below meth c T locs cells slots) (cA cI : ClassId) (N M : Nat) : ∀ i, Stand p l e R s m args below meth c (mn_S T cA cI N M i) (locs ++ (List.range i).map fun j => ⟨T.heap.size, j⟩) (cells + 1 + i) (slots + N + i * M)
  | 0 => by
    have h := X.pushed (mn_o cA N T.heap.size 0)
    rw [show (mn_o cA N T.heap.size 0).slots.size = N from arrV_size _ _ _] at h
    simpa [mn_S] using h
  | i + 1 => by
    obtain ⟨f1, f2, -⟩ := mn_S_f T cA cI N M i
    have hl : T.heap.size < (mn_S T cA cI N M i).heap.size := by omega
    have hcell : ((mn_S T cA cI N M i).pushCell (mn_r cI M)).heap[T.heap.size]? = some (mn_o cA N T.heap.size i) := by
      rw [State.heap_pushCell_of_lt (h := hl)]
      exact f2
    have h := ((mn_X X cA cI N M i).pushed (mn_r cI M)).stored hcell i (.ref (T.heap.size + 1 + i))
    rw [show (mn_r cI M).slots.size = M from arrV_size _ _ _, mn_o_s] at h
    rw [show slots + N + (i + 1) * M = slots + N + i * M + M by rw [Nat.succ_mul]; omega, List.range_succ, List.map_append, ← List.append_assoc]
    exact h
/-- the row: two counts on the stack, a row of rows made -/
theorem W.mnew {cc : ByteArray} {H : Heap} {Q : State → Prop} (hexec : p.tables.exec = Jvm.exec) (hb : c.code = cc) {own : String} {index : Nat} (hown : s.vm.findClass own = some m.cls) (hlink : (Cond.classLink own index "[[I").before args s = true) (hover : (Cond.arrayOver (.array .int)).before args s = true) (harr : (Cond.arrayClass .int).before args s = true) {g : JFrame} (hg : g.method = m) (hdg : decode cc g.pc = .ok (.multianewarray index 2, 4)) {n k : Int32} {rest : List Value} (hstack : g.stack = .int k :: .int n :: rest) (hn : ¬ n < 0) (hk : ¬ k < 0) (hb1 : n.toNatClampNeg ≤ 1000) (hb2 : k.toNatClampNeg ≤ 1000) (hcells : cells + (1 + n.toNatClampNeg) ≤ R.cells) (hslots : slots + (n.toNatClampNeg + n.toNatClampNeg * k.toNatClampNeg) ≤ R.slots)
    (kk : ∀ (cA cI : ClassId) (H1 : Heap), s.vm.findClass "[[I" = some cA → s.vm.findClass "[I" = some cI → H1.size = H.size + 1 + n.toNatClampNeg → H1[H.size]? = some (mn_o cA n.toNatClampNeg H.size n.toNatClampNeg) → (∀ a : Nat, a < H.size → H1[a]? = H[a]?) → (∀ j : Nat, j < n.toNatClampNeg → H1[H.size + 1 + j]? = some (mn_r cI k.toNatClampNeg)) → W p l e R s m args below meth c H1 (locs ++ (List.range n.toNatClampNeg).map fun j => ⟨H.size, j⟩) (cells + 1 + n.toNatClampNeg) (slots + n.toNatClampNeg + n.toNatClampNeg * k.toNatClampNeg) Q { g with pc := g.pc + 4, stack := .ref H.size :: rest }) : W p l e R s m args below meth c H locs cells slots Q g := by
  intro T hT X
  subst hT
  subst hb
  subst hg
  have hpl : e.platform.magicAccessors = ({} : Platform).magicAccessors := by rw [X.admits.platform]
  obtain ⟨comp, cA, kA, hcomp, -, hkA, hkindA, hnameA⟩ := arrayOverA_spec hover
  obtain ⟨cI, kI, cB, hcI, hkI, hkindI⟩ := Cond.arrayClass_spec harr
  have ecomp : comp = cI := Option.some.inj (hcomp.symm.trans hcI)
  subst ecomp
  obtain ⟨c0, hfc0, hcl⟩ := Cond.classLink_spec hown hlink e.platform hpl
  have hnameA' : s.vm.findClass "[[I" = some cA := hnameA
  cases hnameA'.symm.trans hfc0
  obtain ⟨hg1, hwarm1, hready1⟩ := State.classEntry (e := e) X.warmed hcl
  generalize T.vm.noted g.method.cls index (.cls cA) = vm1 at hg1 hwarm1 hready1
  obtain ⟨kA1, hkA1, heA⟩ := hwarm1.alike.2.2 _ _ hkA
  obtain ⟨kI1, hkI1, heI⟩ := hwarm1.alike.2.2 _ _ hkI
  have hkindA1 : kA1.kind = .array comp (.array .int) := by rw [heA]; exact hkindA
  have hkindI1 : kI1.kind = .array cB .int := by rw [heI]; exact hkindI
  have XF := mn_X (X.noted hwarm1) cA comp n.toNatClampNeg k.toNatClampNeg n.toNatClampNeg
  obtain ⟨hr1, hr2⟩ := X.roomAbove hcells hslots
  obtain ⟨f1, f2, -, -, f5, f6⟩ := mn_S_f (T.setVm vm1) cA comp n.toNatClampNeg k.toNatClampNeg n.toNatClampNeg
  obtain ⟨t, a1, b1⟩ := kk cA comp (mn_S (T.setVm vm1) cA comp n.toNatClampNeg k.toNatClampNeg n.toNatClampNeg).heap hnameA' hcI f1 f2 f5 f6 _ rfl XF
  refine ⟨t, ?_, b1⟩
  have hlim := Launch.admits_arrayLengthLimit X.admits
  have hhp := Launch.admits_maxHeapBytes X.admits
  have hf1 : mn_fit e (.array .int) n.toNatClampNeg := ⟨by rw [hlim]; omega, by rw [hhp]; show ¬ n.toNatClampNeg * 4 > 536870912; omega⟩
  have hf2 : mn_fit e .int k.toNatClampNeg := ⟨by rw [hlim]; omega, by rw [hhp]; show ¬ k.toNatClampNeg * 4 > 536870912; omega⟩
  jvm_step X.here [hexec, hdg]
  unfold multianewarray.sem
  rw [wp_bind', W.resolveClassAt_links (State.method?_setTop g X.here.top) hg1, wp_bind']
  refine (W.popN 2).mpr ?_
  rw [if_neg (by decide)]
  refine ⟨g, State.topJava?_setTop' (s := T.setVm vm1) g X.here.top, [.int n, .int k], rest, rfl, hstack, ?_⟩
  rw [show ((T.setTop g).setVm vm1).setTop { g with stack := rest } = (T.setVm vm1).setTop { g with stack := rest } from State.setTop_setTop (T.setVm vm1) g _]
  simp only [List.mapM_cons, List.mapM_nil, wp_bind', wp_pure']
  refine mn_all (s := (T.setVm vm1).setTop { g with stack := rest }) (kA := kA1) (kI := kI1) (cB := cB) ⟨hkA1, hkindA1⟩ ⟨hkI1, hkindI1⟩ hn hk hf1 hf2 (by show T.heap.size + 1 + _ ≤ _; omega) (by show T.slotsUsed + _ + _ ≤ _; omega) (fun d acts => ?_) _ _
  rw [mn_S_t]
  rw [wp_bind', W.mark]
  refine (W.pushRef _).mpr ⟨_, State.topJava?_setTop' _ XF.here.top, ?_⟩
  rw [State.setTop_setTop]
  intro acts2
  simp [jvm, XF.here.top]
  exact a1
end MNEW2
