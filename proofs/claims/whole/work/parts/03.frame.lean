-- a world of N cells, by a function of the place; the judgement AW; a row an instruction
/-- the words that last: all methods' contracts stand on these -/
def gw_tbl : List Cond := lw_tbl.filter goodWord
theorem gw_at {w : Cond} (i : Nat) (h : lw_tbl[i]? = some w) (hg : goodWord w = true) : w ∈ gw_tbl := List.mem_filter.mpr ⟨List.mem_of_getElem? h, hg⟩
theorem gw_in : GoodIn gw_tbl gw_tbl := fun w h => ⟨h, good_of_word (List.mem_filter.mp h).2⟩
/-- links to fields of nest mates -/
def isNest : Cond → Bool := fun w => match w with
  | .fieldLinkNest _ _ _ _ _ _ => true
  | _ => false
def nw_tbl : List Cond := lw_tbl.filter isNest
theorem nw_at {w : Cond} (i : Nat) (h : lw_tbl[i]? = some w) (hg : isNest w = true) : w ∈ nw_tbl := List.mem_filter.mpr ⟨List.mem_of_getElem? h, hg⟩
abbrev wS : Type := Nat → va_E
def wl (N : Nat) (q : Nat → Nat) (f : wS) : va_W := (List.range N).map (fun k => (q k, f k))
theorem wl_get {N : Nat} {q : Nat → Nat} {f : wS} {k : Nat} (h : k < N) : (wl N q f)[k]? = some (q k, f k) := by
  unfold wl
  rw [List.getElem?_map, List.getElem?_range h]
  rfl
theorem wl_of {N : Nat} {q : Nat → Nat} {f : wS} {k : Nat} {x : Nat × va_E} (h : (wl N q f)[k]? = some x) : k < N ∧ x = (q k, f k) := by
  by_cases hk : k < N
  · rw [wl_get hk] at h
    exact ⟨hk, (Option.some.inj h).symm⟩
  · have h0 : (wl N q f)[k]? = none := List.getElem?_eq_none (by unfold wl; rw [List.length_map, List.length_range]; omega)
    rw [h0] at h
    cases h
theorem wl_set {N : Nat} {q : Nat → Nat} {f : wS} {k : Nat} {e : va_E} : (wl N q f).set k (q k, e) = wl N q (va_up f k e) := by
  apply List.ext_getElem?
  intro i
  by_cases hi : i < N
  · rw [wl_get hi, List.getElem?_set]
    by_cases hk : k = i
    · subst hk
      rw [if_pos rfl, if_pos (by unfold wl; rw [List.length_map, List.length_range]; exact hi), va_up_self]
    · rw [if_neg hk, wl_get hi, va_up_ne _ _ (fun h => hk h.symm)]
  · rw [List.getElem?_eq_none (by rw [List.length_set]; unfold wl; rw [List.length_map, List.length_range]; omega), List.getElem?_eq_none (by unfold wl; rw [List.length_map, List.length_range]; omega)]
def wA (N : Nat) (q : Nat → Nat) (sz : Nat) : Nat → Prop := fun a => (∃ k, k < N ∧ q k = a) ∨ sz ≤ a
def wI (N : Nat) (q : Nat → Nat) : Prop := ∀ i j, i < N → j < N → q i = q j → i = j
theorem wl_D {N : Nat} {q : Nat → Nat} {f : wS} {sz : Nat} (h : wI N q) : va_D (wA N q sz) (wl N q f) := by
  refine ⟨fun i j x y hi hj hxy => ?_, fun k x hk => ?_⟩
  · obtain ⟨h1, rfl⟩ := wl_of hi
    obtain ⟨h2, rfl⟩ := wl_of hj
    exact h i j h1 h2 hxy
  · obtain ⟨h1, rfl⟩ := wl_of hk
    exact Or.inl ⟨k, h1, rfl⟩
/-- the array classes -/
def tyL (cy : Nat → ClassId) : List (ClassId × FieldType) := [(cy 0, .char), (cy 1, .int), (cy 2, .long), (cy 3, .boolean), (cy 4, .array .int)]
/-- the static rows of BondedWires -/
def zN : Nat → String := fun j => match j with
  | 0 => "LEAST_NUMBER"
  | 1 => "MOST_NUMBER"
  | 2 => "MOST_LIMIT"
  | _ => "USUAL_LIMIT"
def zL : Nat → Nat := fun j => match j with
  | 0 => 5
  | 1 => 5
  | _ => 3
def zF : Nat → Nat → Int32 := fun j i => match j with
  | 0 => if i = 4 then 1 else 0
  | 1 => if i = 0 ∨ i = 2 then 60 else if i = 4 then 40 else 2
  | 2 => if i = 1 then 40 else 9
  | _ => if i = 1 then 6 else 2
def wZ (z : Nat → Nat) (A : Nat → Prop) (U : State) (H : Heap) : Prop := ∀ j, j < 4 → va_Z "BondedWires" (zN j) "[I" (.ref (z j)) A U H ∧ va_T .int (z j) (zL j) (fun i => .int (zF j i)) A U H
theorem wZ.moved {z : Nat → Nat} {A : Nat → Prop} {u U : State} {H : Heap} (hvm : u.vm.Alike U.vm) (h : wZ z A u H) : wZ z A U H := fun j hj => ⟨va_Z.moved hvm (h j hj).1, va_T.moved hvm (h j hj).2⟩
theorem wZ.kept {z : Nat → Nat} {A : Nat → Prop} {U : State} {H H1 : Heap} (h : wZ z A U H) (hq : ∀ a : Nat, a < H.size → ¬ A a → H1[a]? = H[a]?) : wZ z A U H1 := fun j hj => ⟨(h j hj).1.kept hq, (h j hj).2.kept hq⟩
theorem wZ.narrow {z : Nat → Nat} {A B : Nat → Prop} {U : State} {H : Heap} (h : wZ z A U H) (hAB : ∀ q, B q → A q) : wZ z B U H := fun j hj => ⟨(h j hj).1.narrow hAB, (h j hj).2.narrow hAB⟩
def wE (D : va_G) (cy : Nat → ClassId) (z : Nat → Nat) (A : Nat → Prop) (U : State) (H : Heap) : Prop := va_K D vwCl (tyL cy) U ∧ wZ z A U H ∧ ∀ w ∈ nw_tbl, va_Nw w U
theorem nw_warm {s U : State} (hW : s.WarmedH U.vm) (h : ∀ w ∈ nw_tbl, va_Nw w s) : ∀ w ∈ nw_tbl, va_Nw w U := by
  intro w hw
  have h1 := h w hw
  have h2 := (List.mem_filter.mp hw).2
  cases w <;> first | exact va_Nw.warmF hW h1 | cases h2
theorem wE.go {D : va_G} {cy : Nat → ClassId} {z : Nat → Nat} {N : Nat} {q : Nat → Nat} {s U : State} {H : Heap} {locs : List Loc} (h : wE D cy z (wA N q s.heap.size) s s.heap) (hS : va_S (wA N q s.heap.size) s.heap H locs) (hU : U.heap = H) (hW : s.WarmedH U.vm) : wE D cy z (wA N q H.size) U U.heap := by
  refine ⟨va_K.moved hW.alike h.1, ?_, nw_warm hW h.2.2⟩
  rw [hU]
  exact ((h.2.1.kept hS.2.1).moved hW.alike).narrow (fun a ha => ha.elim Or.inl (fun g => Or.inr (Nat.le_trans hS.1 g)))
theorem wE.calling {D : va_G} {cy : Nat → ClassId} {z : Nat → Nat} {A : Nat → Prop} {U : State} {g : JFrame} {mk : MethodId} {a : Array Value} (h : wE D cy z A U U.heap) : wE D cy z A (U.calling g mk a) (U.calling g mk a).heap := ⟨va_K.moved (u := U) (U := U.calling g mk a) (Vm.Alike.refl U.vm) h.1, wZ.moved (u := U) (U := U.calling g mk a) (Vm.Alike.refl U.vm) h.2.1, fun w hw => va_Nw.same (u := U) (U := U.calling g mk a) (by have h2 := (List.mem_filter.mp hw).2; cases w <;> first | rfl | cases h2) rfl (h.2.2 w hw)⟩
/-- a method's end: its answer and the world behind it -/
def Qg (D : va_G) (N : Nat) (q : Nat → Nat) (post : Option Value → wS → Prop) (A : Nat → Prop) : Array Value → State → Outcome → State → Prop := fun _ st oc t => (∃ (r : Option Value) (g : wS), oc = .returned r ∧ post r g ∧ va_P D vwCl (wl N q g) t.heap) ∧ va_F A st t
def Pg (D : va_G) (cy : Nat → ClassId) (z : Nat → Nat) (N : Nat) (q : Nat → Nat) (sz : Nat) (av : List Value) (f : wS) : Array Value → State → Prop := va_Pc av (fun U => U.heap.size = sz ∧ va_P D vwCl (wl N q f) U.heap ∧ wE D cy z (wA N q sz) U U.heap)
/-- a method's contract: from the world f, with these arguments, it answers r and leaves the world g, with post r g; it makes nothing -/
def Ct (l : Launch) (y : MethodName) (bytes : ByteArray) (maxL : Nat) (ret : Option FieldType) (fr lo : Nat) (D : va_G) (cy : Nat → ClassId) (z : Nat → Nat) (N : Nat) (q : Nat → Nat) (av : List Value) (f : wS) (post : Option Value → wS → Prop) : Prop :=
  ∀ sz, Met l y (.code y bytes maxL ret :: gw_tbl) { frames := fr, cells := 0, slots := 0, locals := lo } (Pg D cy z N q sz av f) (Qg D N q post (wA N q sz)) 0 0 (wA N q sz)
/-- the value of a local -/
def lk (lv : List (Nat × Value)) (i : Nat) : Option Value := match lv with
  | [] => none
  | x :: t => cond (Nat.beq x.1 i) (some x.2) (lk t i)
theorem lk_mem : ∀ {lv : List (Nat × Value)} {i : Nat} {v : Value}, lk lv i = some v → (i, v) ∈ lv
  | [], i, v, h => by cases h
  | x :: t, i, v, h => by
    unfold lk at h
    cases hb : Nat.beq x.1 i with
    | true =>
      rw [hb] at h
      have h1 := Nat.eq_of_beq_eq_true hb
      have h2 : x.2 = v := Option.some.inj h
      rw [← h1, ← h2]
      exact List.mem_cons_self
    | false =>
      rw [hb] at h
      exact List.mem_cons_of_mem _ (lk_mem h)
theorem lk_at {ls : Array Slot} {nL : Nat} {lv : List (Nat × Value)} (h : lv_has ls nL lv) {i : Nat} {v : Value} (hl : lk lv i = some v) : ls[i]? = some (.val v) := h.2.2 (i, v) (lk_mem hl)
/-- a local set: in its place, or behind the others -/
def ls_ok (i : Nat) (x : Nat × Value) : Bool := cond (Nat.beq x.1 i) false (cond (Nat.beq (x.1 + 1) i) (match x.2 with
  | .long _ => false
  | .double _ => false
  | _ => true) true)
def lset (i : Nat) (v : Value) : List (Nat × Value) → List (Nat × Value)
  | [] => [(i, v)]
  | x :: t => cond (Nat.beq x.1 i) ((i, v) :: t.filter (ls_ok i)) (cond (ls_ok i x) (x :: lset i v t) (lset i v t))
theorem ls_ok_eq {i : Nat} {x : Nat × Value} (h : ls_ok i x = true) : (!(x.1 == i) && !(x.1 + 1 == i && x.2.category == 2)) = true := by
  obtain ⟨a, v⟩ := x
  unfold ls_ok at h
  cases h1 : Nat.beq a i with
  | true => simp [h1] at h
  | false =>
    have e1 : ¬ a = i := fun e => by rw [e, Nat.beq_refl] at h1; cases h1
    cases h2 : Nat.beq (a + 1) i with
    | false =>
      have e2 : ¬ a + 1 = i := fun e => by rw [e, Nat.beq_refl] at h2; cases h2
      simp [e1, e2]
    | true =>
      cases v <;> simp [h1, h2] at h <;> simp [e1, Value.category]
theorem lset_mem {i : Nat} {v : Value} : ∀ {lv : List (Nat × Value)} {x : Nat × Value}, x ∈ lset i v lv → x ∈ (i, v) :: lv.filter (fun q => !(q.1 == i) && !(q.1 + 1 == i && q.2.category == 2))
  | [], x, h => h
  | y :: t, x, h => by
    unfold lset at h
    cases h1 : Nat.beq y.1 i with
    | true =>
      rw [h1] at h
      rcases List.mem_cons.mp h with h | h
      · exact List.mem_cons.mpr (Or.inl h)
      · have h2 := List.mem_filter.mp h
        exact List.mem_cons_of_mem _ (List.mem_filter.mpr ⟨List.mem_cons_of_mem _ h2.1, ls_ok_eq h2.2⟩)
    | false =>
      rw [h1] at h
      cases h2 : ls_ok i y with
      | true =>
        rw [h2] at h
        rcases List.mem_cons.mp h with h | h
        · exact List.mem_cons_of_mem _ (List.mem_filter.mpr ⟨List.mem_cons.mpr (Or.inl h), by rw [h]; exact ls_ok_eq h2⟩)
        · rcases List.mem_cons.mp (lset_mem h) with h | h
          · exact List.mem_cons.mpr (Or.inl h)
          · have h3 := List.mem_filter.mp h
            exact List.mem_cons_of_mem _ (List.mem_filter.mpr ⟨List.mem_cons_of_mem _ h3.1, h3.2⟩)
      | false =>
        rw [h2] at h
        rcases List.mem_cons.mp (lset_mem h) with h | h
        · exact List.mem_cons.mpr (Or.inl h)
        · have h3 := List.mem_filter.mp h
          exact List.mem_cons_of_mem _ (List.mem_filter.mpr ⟨List.mem_cons_of_mem _ h3.1, h3.2⟩)
theorem lv_mono {ls : Array Slot} {nL : Nat} {a b : List (Nat × Value)} (h : lv_has ls nL a) (hs : ∀ x ∈ b, x ∈ a) : lv_has ls nL b := ⟨h.1, h.2.1, fun x hx => h.2.2 x (hs x hx)⟩
section FRAME
variable {p : Program} {l : Launch} {e : Env} {R : Room} {s : State} {m : MethodId} {args : Array Value} {below : List Frame} {meth : Method} {c : Code} {Q : State → Prop}
variable {cc : ByteArray} {nL : Nat} {own : String} {D : va_G} {cy : Nat → ClassId} {z : Nat → Nat} {N : Nat} {q : Nat → Nat}
variable {f : wS} {lv : List (Nat × Value)} {pc : Nat} {st : List Value}
def AW (p : Program) (l : Launch) (e : Env) (R : Room) (s : State) (m : MethodId) (args : Array Value) (below : List Frame) (meth : Method) (c : Code) (D : va_G) (N : Nat) (q : Nat → Nat) (nL : Nat) (Q : State → Prop) (f : wS) (lv : List (Nat × Value)) (pc : Nat) (st : List Value) : Prop :=
  ∀ (H : Heap) (locs : List Loc) (ls : Array Slot), va_P D vwCl (wl N q f) H → va_S (wA N q s.heap.size) s.heap H locs → lv_has ls nL lv → W p l e R s m args below meth c H locs 0 0 Q (F0 m pc ls st)
/-- what holds all along a method's walk -/
def Cx (p : Program) (s : State) (m : MethodId) (args : Array Value) (meth : Method) (c : Code) (cc : ByteArray) (nL : Nat) (own : String) (D : va_G) (cy : Nat → ClassId) (z : Nat → Nat) (N : Nat) (q : Nat → Nat) : Prop :=
  p.tables.exec = Jvm.exec ∧ c.code = cc ∧ c.maxLocals = nL ∧ s.vm.findClass own = some m.cls ∧ (∀ w ∈ gw_tbl, w.before args s = true) ∧ wE D cy z (wA N q s.heap.size) s s.heap ∧ wI N q ∧ meth.locks = false
theorem aw_iload_n (C : Cx p s m args meth c cc nL own D cy z N q) {k : Fin 4} {i : Nat} {x : Int32} (hd : decode cc pc = .ok (.iload_n k, 1)) (hi : (k : Nat) = i) (hl : lk lv i = some (.int x)) (K : AW p l e R s m args below meth c D N q nL Q f lv (pc + 1) (.int x :: st)) : AW p l e R s m args below meth c D N q nL Q f lv pc st :=
  fun H locs ls hP hS hv => lv_iload_n C.1 C.2.1 hd hi (lk_at hv hl) (K H locs ls hP hS hv)
theorem aw_aload_n (C : Cx p s m args meth c cc nL own D cy z N q) {k : Fin 4} {i : Nat} {x : Nat} (hd : decode cc pc = .ok (.aload_n k, 1)) (hi : (k : Nat) = i) (hl : lk lv i = some (.ref x)) (K : AW p l e R s m args below meth c D N q nL Q f lv (pc + 1) (.ref x :: st)) : AW p l e R s m args below meth c D N q nL Q f lv pc st :=
  fun H locs ls hP hS hv => lv_aload_n C.1 C.2.1 hd hi (lk_at hv hl) (K H locs ls hP hS hv)
theorem aw_lload_n (C : Cx p s m args meth c cc nL own D cy z N q) {k : Fin 4} {i : Nat} {x : Int64} (hd : decode cc pc = .ok (.lload_n k, 1)) (hi : (k : Nat) = i) (hl : lk lv i = some (.long x)) (K : AW p l e R s m args below meth c D N q nL Q f lv (pc + 1) (.long x :: st)) : AW p l e R s m args below meth c D N q nL Q f lv pc st :=
  fun H locs ls hP hS hv => lv_lload_n C.1 C.2.1 hd hi (lk_at hv hl) (K H locs ls hP hS hv)
theorem aw_iload (C : Cx p s m args meth c cc nL own D cy z N q) {i : Nat} {x : Int32} (hd : decode cc pc = .ok (.iload i, 2)) (hl : lk lv i = some (.int x)) (K : AW p l e R s m args below meth c D N q nL Q f lv (pc + 2) (.int x :: st)) : AW p l e R s m args below meth c D N q nL Q f lv pc st :=
  fun H locs ls hP hS hv => lv_iload C.1 C.2.1 hd (lk_at hv hl) (K H locs ls hP hS hv)
theorem aw_istore_n (C : Cx p s m args meth c cc nL own D cy z N q) {k : Fin 4} {i : Nat} {x : Int32} {lv' : List (Nat × Value)} (hd : decode cc pc = .ok (.istore_n k, 1)) (hi : (k : Nat) = i) (hn : i < nL) (hl : lset i (.int x) lv = lv') (K : AW p l e R s m args below meth c D N q nL Q f lv' (pc + 1) st) : AW p l e R s m args below meth c D N q nL Q f lv pc (.int x :: st) :=
  fun H locs ls hP hS hv => lv_istore_n C.1 C.2.1 hd hi hv hn rfl (fun ls hv => K H locs ls hP hS (lv_mono hv (fun x hx => lset_mem (by rw [hl]; exact hx))))
theorem aw_astore_n (C : Cx p s m args meth c cc nL own D cy z N q) {k : Fin 4} {i : Nat} {x : Nat} {lv' : List (Nat × Value)} (hd : decode cc pc = .ok (.astore_n k, 1)) (hi : (k : Nat) = i) (hn : i < nL) (hl : lset i (.ref x) lv = lv') (K : AW p l e R s m args below meth c D N q nL Q f lv' (pc + 1) st) : AW p l e R s m args below meth c D N q nL Q f lv pc (.ref x :: st) :=
  fun H locs ls hP hS hv => lv_astore_n C.1 C.2.1 hd hi hv hn rfl (fun ls hv => K H locs ls hP hS (lv_mono hv (fun x hx => lset_mem (by rw [hl]; exact hx))))
theorem aw_istore (C : Cx p s m args meth c cc nL own D cy z N q) {i : Nat} {x : Int32} {lv' : List (Nat × Value)} (hd : decode cc pc = .ok (.istore i, 2)) (hn : i < nL) (hl : lset i (.int x) lv = lv') (K : AW p l e R s m args below meth c D N q nL Q f lv' (pc + 2) st) : AW p l e R s m args below meth c D N q nL Q f lv pc (.int x :: st) :=
  fun H locs ls hP hS hv => lv_istore C.1 C.2.1 hd hv hn rfl (fun ls hv => K H locs ls hP hS (lv_mono hv (fun x hx => lset_mem (by rw [hl]; exact hx))))
theorem aw_iinc (C : Cx p s m args meth c cc nL own D cy z N q) {i : Nat} {n : Int} {x d : Int32} {lv' : List (Nat × Value)} (hd : decode cc pc = .ok (.iinc i n, 3)) (hx : lk lv i = some (.int x)) (hn : Int32.ofInt n = d) (hlt : i < nL) (hl : lset i (.int (x + d)) lv = lv') (K : AW p l e R s m args below meth c D N q nL Q f lv' (pc + 3) st) : AW p l e R s m args below meth c D N q nL Q f lv pc st :=
  fun H locs ls hP hS hv => by
  obtain ⟨k, hk⟩ := List.getElem?_of_mem (lk_mem hx)
  exact lv_iinc (v := x + d) C.1 C.2.1 hd hv hk (by rw [hn]) hlt rfl (fun ls hv => K H locs ls hP hS (lv_mono hv (fun x hx => lset_mem (by rw [hl]; exact hx))))
theorem aw_iconst (C : Cx p s m args meth c cc nL own D cy z N q) {n : Int} {v : Int32} (hd : decode cc pc = .ok (.iconst n, 1)) (hn : Int32.ofInt n = v) (K : AW p l e R s m args below meth c D N q nL Q f lv (pc + 1) (.int v :: st)) : AW p l e R s m args below meth c D N q nL Q f lv pc st :=
  fun H locs ls hP hS hv => lv_iconst C.1 C.2.1 hd hn (K H locs ls hP hS hv)
theorem aw_bipush (C : Cx p s m args meth c cc nL own D cy z N q) {n : Int} {v : Int32} (hd : decode cc pc = .ok (.bipush n, 2)) (hn : (Int8.ofInt n).toInt32 = v) (K : AW p l e R s m args below meth c D N q nL Q f lv (pc + 2) (.int v :: st)) : AW p l e R s m args below meth c D N q nL Q f lv pc st :=
  fun H locs ls hP hS hv => lv_bipush C.1 C.2.1 hd hn (K H locs ls hP hS hv)
theorem aw_sipush (C : Cx p s m args meth c cc nL own D cy z N q) {n : Int} {v : Int32} (hd : decode cc pc = .ok (.sipush n, 3)) (hn : (Int16.ofInt n).toInt32 = v) (K : AW p l e R s m args below meth c D N q nL Q f lv (pc + 3) (.int v :: st)) : AW p l e R s m args below meth c D N q nL Q f lv pc st :=
  fun H locs ls hP hS hv => lv_sipush C.1 C.2.1 hd hn (K H locs ls hP hS hv)
theorem aw_lconst (C : Cx p s m args meth c cc nL own D cy z N q) {n : Fin 2} {v : Int64} (hd : decode cc pc = .ok (.lconst n, 1)) (hn : Int64.ofNat (n : Nat) = v) (K : AW p l e R s m args below meth c D N q nL Q f lv (pc + 1) (.long v :: st)) : AW p l e R s m args below meth c D N q nL Q f lv pc st :=
  fun H locs ls hP hS hv => lv_lconst C.1 C.2.1 hd hn (K H locs ls hP hS hv)
theorem aw_ldc (C : Cx p s m args meth c cc nL own D cy z N q) {index : Nat} {v : Int32} (hd : decode cc pc = .ok (.ldc index, 2)) (hw : Cond.constant own index v ∈ gw_tbl) (K : AW p l e R s m args below meth c D N q nL Q f lv (pc + 2) (.int v :: st)) : AW p l e R s m args below meth c D N q nL Q f lv pc st :=
  fun H locs ls hP hS hv => lv_ldc C.1 C.2.1 C.2.2.2.1 (C.2.2.2.2.1 _ hw) hd (K H locs ls hP hS hv)
theorem aw_iadd (C : Cx p s m args meth c cc nL own D cy z N q) {x y : Int32} (hd : decode cc pc = .ok (.iadd, 1)) (K : AW p l e R s m args below meth c D N q nL Q f lv (pc + 1) (.int (x + y) :: st)) : AW p l e R s m args below meth c D N q nL Q f lv pc (.int y :: .int x :: st) :=
  fun H locs ls hP hS hv => lv_iadd C.1 C.2.1 hd (K H locs ls hP hS hv)
theorem aw_isub (C : Cx p s m args meth c cc nL own D cy z N q) {x y : Int32} (hd : decode cc pc = .ok (.isub, 1)) (K : AW p l e R s m args below meth c D N q nL Q f lv (pc + 1) (.int (x - y) :: st)) : AW p l e R s m args below meth c D N q nL Q f lv pc (.int y :: .int x :: st) :=
  fun H locs ls hP hS hv => lv_isub C.1 C.2.1 hd (K H locs ls hP hS hv)
theorem aw_imul (C : Cx p s m args meth c cc nL own D cy z N q) {x y : Int32} (hd : decode cc pc = .ok (.imul, 1)) (K : AW p l e R s m args below meth c D N q nL Q f lv (pc + 1) (.int (x * y) :: st)) : AW p l e R s m args below meth c D N q nL Q f lv pc (.int y :: .int x :: st) :=
  fun H locs ls hP hS hv => lv_imul C.1 C.2.1 hd (K H locs ls hP hS hv)
theorem aw_iand (C : Cx p s m args meth c cc nL own D cy z N q) {x y : Int32} (hd : decode cc pc = .ok (.iand, 1)) (K : AW p l e R s m args below meth c D N q nL Q f lv (pc + 1) (.int (x &&& y) :: st)) : AW p l e R s m args below meth c D N q nL Q f lv pc (.int y :: .int x :: st) :=
  fun H locs ls hP hS hv => lv_iand C.1 C.2.1 hd (K H locs ls hP hS hv)
theorem aw_ior (C : Cx p s m args meth c cc nL own D cy z N q) {x y : Int32} (hd : decode cc pc = .ok (.ior, 1)) (K : AW p l e R s m args below meth c D N q nL Q f lv (pc + 1) (.int (x ||| y) :: st)) : AW p l e R s m args below meth c D N q nL Q f lv pc (.int y :: .int x :: st) :=
  fun H locs ls hP hS hv => lv_ior C.1 C.2.1 hd (K H locs ls hP hS hv)
theorem aw_ixor (C : Cx p s m args meth c cc nL own D cy z N q) {x y : Int32} (hd : decode cc pc = .ok (.ixor, 1)) (K : AW p l e R s m args below meth c D N q nL Q f lv (pc + 1) (.int (x ^^^ y) :: st)) : AW p l e R s m args below meth c D N q nL Q f lv pc (.int y :: .int x :: st) :=
  fun H locs ls hP hS hv => lv_ixor C.1 C.2.1 hd (K H locs ls hP hS hv)
theorem aw_ishl (C : Cx p s m args meth c cc nL own D cy z N q) {x y : Int32} (hd : decode cc pc = .ok (.ishl, 1)) (K : AW p l e R s m args below meth c D N q nL Q f lv (pc + 1) (.int (x <<< (y &&& 31)) :: st)) : AW p l e R s m args below meth c D N q nL Q f lv pc (.int y :: .int x :: st) :=
  fun H locs ls hP hS hv => lv_ishl C.1 C.2.1 hd (K H locs ls hP hS hv)
theorem aw_ishr (C : Cx p s m args meth c cc nL own D cy z N q) {x y : Int32} (hd : decode cc pc = .ok (.ishr, 1)) (K : AW p l e R s m args below meth c D N q nL Q f lv (pc + 1) (.int (x >>> (y &&& 31)) :: st)) : AW p l e R s m args below meth c D N q nL Q f lv pc (.int y :: .int x :: st) :=
  fun H locs ls hP hS hv => lv_ishr C.1 C.2.1 hd (K H locs ls hP hS hv)
theorem aw_idiv (C : Cx p s m args meth c cc nL own D cy z N q) {x y : Int32} (hd : decode cc pc = .ok (.idiv, 1)) (hy : ¬ y = 0) (K : AW p l e R s m args below meth c D N q nL Q f lv (pc + 1) (.int (x / y) :: st)) : AW p l e R s m args below meth c D N q nL Q f lv pc (.int y :: .int x :: st) :=
  fun H locs ls hP hS hv => lv_idiv C.1 C.2.1 hd hy (K H locs ls hP hS hv)
theorem aw_irem (C : Cx p s m args meth c cc nL own D cy z N q) {x y : Int32} (hd : decode cc pc = .ok (.irem, 1)) (hy : ¬ y = 0) (K : AW p l e R s m args below meth c D N q nL Q f lv (pc + 1) (.int (x - x / y * y) :: st)) : AW p l e R s m args below meth c D N q nL Q f lv pc (.int y :: .int x :: st) :=
  fun H locs ls hP hS hv => lv_irem C.1 C.2.1 hd hy (K H locs ls hP hS hv)
theorem aw_ineg (C : Cx p s m args meth c cc nL own D cy z N q) {x : Int32} (hd : decode cc pc = .ok (.ineg, 1)) (K : AW p l e R s m args below meth c D N q nL Q f lv (pc + 1) (.int (0 - x) :: st)) : AW p l e R s m args below meth c D N q nL Q f lv pc (.int x :: st) :=
  fun H locs ls hP hS hv => lv_ineg C.1 C.2.1 hd (K H locs ls hP hS hv)
theorem aw_i2c (C : Cx p s m args meth c cc nL own D cy z N q) {x v : Int32} (hd : decode cc pc = .ok (.i2c, 1)) (hx : (x.toUInt32 % 65536).toInt32 = v) (K : AW p l e R s m args below meth c D N q nL Q f lv (pc + 1) (.int v :: st)) : AW p l e R s m args below meth c D N q nL Q f lv pc (.int x :: st) :=
  fun H locs ls hP hS hv => lv_i2c C.1 C.2.1 hd hx (K H locs ls hP hS hv)
theorem aw_iushr (C : Cx p s m args meth c cc nL own D cy z N q) {x y v : Int32} (hd : decode cc pc = .ok (.iushr, 1)) (hx : (x.toUInt32 >>> (y.toUInt32 &&& Int32.toUInt32 31)).toInt32 = v) (K : AW p l e R s m args below meth c D N q nL Q f lv (pc + 1) (.int v :: st)) : AW p l e R s m args below meth c D N q nL Q f lv pc (.int y :: .int x :: st) :=
  fun H locs ls hP hS hv => lv_iushr C.1 C.2.1 hd hx (K H locs ls hP hS hv)
theorem aw_dup (C : Cx p s m args meth c cc nL own D cy z N q) {v : Value} (hd : decode cc pc = .ok (.dup, 1)) (hc : v.category = 1) (K : AW p l e R s m args below meth c D N q nL Q f lv (pc + 1) (v :: v :: st)) : AW p l e R s m args below meth c D N q nL Q f lv pc (v :: st) :=
  fun H locs ls hP hS hv => lv_dup C.1 C.2.1 hd hc (K H locs ls hP hS hv)
theorem aw_dup2 (C : Cx p s m args meth c cc nL own D cy z N q) {u v : Value} (hd : decode cc pc = .ok (.dup2, 1)) (hc : u.category = 1) (hc2 : v.category = 1) (K : AW p l e R s m args below meth c D N q nL Q f lv (pc + 1) (u :: v :: u :: v :: st)) : AW p l e R s m args below meth c D N q nL Q f lv pc (u :: v :: st) :=
  fun H locs ls hP hS hv => lv_dup2_11 C.1 C.2.1 hd hc hc2 (K H locs ls hP hS hv)
theorem aw_pop (C : Cx p s m args meth c cc nL own D cy z N q) {v : Value} (hd : decode cc pc = .ok (.pop, 1)) (hc : v.category = 1) (K : AW p l e R s m args below meth c D N q nL Q f lv (pc + 1) st) : AW p l e R s m args below meth c D N q nL Q f lv pc (v :: st) :=
  fun H locs ls hP hS hv => lv_pop C.1 C.2.1 hd hc (K H locs ls hP hS hv)
theorem aw_goto (C : Cx p s m args meth c cc nL own D cy z N q) {off : Int} {tgt : Nat} (hd : decode cc pc = .ok (.goto off, 3)) (ht : (pc : Int) + off = (tgt : Int)) (K : AW p l e R s m args below meth c D N q nL Q f lv tgt st) : AW p l e R s m args below meth c D N q nL Q f lv pc st :=
  fun H locs ls hP hS hv => lv_goto C.1 C.2.1 hd ht (K H locs ls hP hS hv)
theorem aw_icmp_eq (C : Cx p s m args meth c cc nL own D cy z N q) {x y : Int32} {off : Int} {tgt : Nat} (hd : decode cc pc = .ok (.if_icmp .eq off, 3)) (ht : (pc : Int) + off = (tgt : Int)) (K1 : x = y → AW p l e R s m args below meth c D N q nL Q f lv tgt st) (K2 : ¬ (x = y) → AW p l e R s m args below meth c D N q nL Q f lv (pc + 3) st) : AW p l e R s m args below meth c D N q nL Q f lv pc (.int y :: .int x :: st) :=
  fun H locs ls hP hS hv => lv_icmp_eq C.1 C.2.1 hd ht (fun h => K1 h H locs ls hP hS hv) (fun h => K2 h H locs ls hP hS hv)
theorem aw_if_eq (C : Cx p s m args meth c cc nL own D cy z N q) {x : Int32} {off : Int} {tgt : Nat} (hd : decode cc pc = .ok (.ifCond .eq off, 3)) (ht : (pc : Int) + off = (tgt : Int)) (K1 : x = 0 → AW p l e R s m args below meth c D N q nL Q f lv tgt st) (K2 : ¬ (x = 0) → AW p l e R s m args below meth c D N q nL Q f lv (pc + 3) st) : AW p l e R s m args below meth c D N q nL Q f lv pc (.int x :: st) :=
  fun H locs ls hP hS hv => lv_if_eq C.1 C.2.1 hd ht (fun h => K1 h H locs ls hP hS hv) (fun h => K2 h H locs ls hP hS hv)
theorem aw_icmp_ne (C : Cx p s m args meth c cc nL own D cy z N q) {x y : Int32} {off : Int} {tgt : Nat} (hd : decode cc pc = .ok (.if_icmp .ne off, 3)) (ht : (pc : Int) + off = (tgt : Int)) (K1 : x ≠ y → AW p l e R s m args below meth c D N q nL Q f lv tgt st) (K2 : x = y → AW p l e R s m args below meth c D N q nL Q f lv (pc + 3) st) : AW p l e R s m args below meth c D N q nL Q f lv pc (.int y :: .int x :: st) :=
  fun H locs ls hP hS hv => lv_icmp_ne C.1 C.2.1 hd ht (fun h => K1 h H locs ls hP hS hv) (fun h => K2 h H locs ls hP hS hv)
theorem aw_if_ne (C : Cx p s m args meth c cc nL own D cy z N q) {x : Int32} {off : Int} {tgt : Nat} (hd : decode cc pc = .ok (.ifCond .ne off, 3)) (ht : (pc : Int) + off = (tgt : Int)) (K1 : x ≠ 0 → AW p l e R s m args below meth c D N q nL Q f lv tgt st) (K2 : x = 0 → AW p l e R s m args below meth c D N q nL Q f lv (pc + 3) st) : AW p l e R s m args below meth c D N q nL Q f lv pc (.int x :: st) :=
  fun H locs ls hP hS hv => lv_if_ne C.1 C.2.1 hd ht (fun h => K1 h H locs ls hP hS hv) (fun h => K2 h H locs ls hP hS hv)
theorem aw_icmp_lt (C : Cx p s m args meth c cc nL own D cy z N q) {x y : Int32} {off : Int} {tgt : Nat} (hd : decode cc pc = .ok (.if_icmp .lt off, 3)) (ht : (pc : Int) + off = (tgt : Int)) (K1 : x < y → AW p l e R s m args below meth c D N q nL Q f lv tgt st) (K2 : ¬ (x < y) → AW p l e R s m args below meth c D N q nL Q f lv (pc + 3) st) : AW p l e R s m args below meth c D N q nL Q f lv pc (.int y :: .int x :: st) :=
  fun H locs ls hP hS hv => lv_icmp_lt C.1 C.2.1 hd ht (fun h => K1 h H locs ls hP hS hv) (fun h => K2 h H locs ls hP hS hv)
theorem aw_if_lt (C : Cx p s m args meth c cc nL own D cy z N q) {x : Int32} {off : Int} {tgt : Nat} (hd : decode cc pc = .ok (.ifCond .lt off, 3)) (ht : (pc : Int) + off = (tgt : Int)) (K1 : x < 0 → AW p l e R s m args below meth c D N q nL Q f lv tgt st) (K2 : ¬ (x < 0) → AW p l e R s m args below meth c D N q nL Q f lv (pc + 3) st) : AW p l e R s m args below meth c D N q nL Q f lv pc (.int x :: st) :=
  fun H locs ls hP hS hv => lv_if_lt C.1 C.2.1 hd ht (fun h => K1 h H locs ls hP hS hv) (fun h => K2 h H locs ls hP hS hv)
theorem aw_icmp_ge (C : Cx p s m args meth c cc nL own D cy z N q) {x y : Int32} {off : Int} {tgt : Nat} (hd : decode cc pc = .ok (.if_icmp .ge off, 3)) (ht : (pc : Int) + off = (tgt : Int)) (K1 : y ≤ x → AW p l e R s m args below meth c D N q nL Q f lv tgt st) (K2 : ¬ (y ≤ x) → AW p l e R s m args below meth c D N q nL Q f lv (pc + 3) st) : AW p l e R s m args below meth c D N q nL Q f lv pc (.int y :: .int x :: st) :=
  fun H locs ls hP hS hv => lv_icmp_ge C.1 C.2.1 hd ht (fun h => K1 h H locs ls hP hS hv) (fun h => K2 h H locs ls hP hS hv)
theorem aw_if_ge (C : Cx p s m args meth c cc nL own D cy z N q) {x : Int32} {off : Int} {tgt : Nat} (hd : decode cc pc = .ok (.ifCond .ge off, 3)) (ht : (pc : Int) + off = (tgt : Int)) (K1 : 0 ≤ x → AW p l e R s m args below meth c D N q nL Q f lv tgt st) (K2 : ¬ (0 ≤ x) → AW p l e R s m args below meth c D N q nL Q f lv (pc + 3) st) : AW p l e R s m args below meth c D N q nL Q f lv pc (.int x :: st) :=
  fun H locs ls hP hS hv => lv_if_ge C.1 C.2.1 hd ht (fun h => K1 h H locs ls hP hS hv) (fun h => K2 h H locs ls hP hS hv)
theorem aw_icmp_gt (C : Cx p s m args meth c cc nL own D cy z N q) {x y : Int32} {off : Int} {tgt : Nat} (hd : decode cc pc = .ok (.if_icmp .gt off, 3)) (ht : (pc : Int) + off = (tgt : Int)) (K1 : y < x → AW p l e R s m args below meth c D N q nL Q f lv tgt st) (K2 : ¬ (y < x) → AW p l e R s m args below meth c D N q nL Q f lv (pc + 3) st) : AW p l e R s m args below meth c D N q nL Q f lv pc (.int y :: .int x :: st) :=
  fun H locs ls hP hS hv => lv_icmp_gt C.1 C.2.1 hd ht (fun h => K1 h H locs ls hP hS hv) (fun h => K2 h H locs ls hP hS hv)
theorem aw_if_gt (C : Cx p s m args meth c cc nL own D cy z N q) {x : Int32} {off : Int} {tgt : Nat} (hd : decode cc pc = .ok (.ifCond .gt off, 3)) (ht : (pc : Int) + off = (tgt : Int)) (K1 : 0 < x → AW p l e R s m args below meth c D N q nL Q f lv tgt st) (K2 : ¬ (0 < x) → AW p l e R s m args below meth c D N q nL Q f lv (pc + 3) st) : AW p l e R s m args below meth c D N q nL Q f lv pc (.int x :: st) :=
  fun H locs ls hP hS hv => lv_if_gt C.1 C.2.1 hd ht (fun h => K1 h H locs ls hP hS hv) (fun h => K2 h H locs ls hP hS hv)
theorem aw_icmp_le (C : Cx p s m args meth c cc nL own D cy z N q) {x y : Int32} {off : Int} {tgt : Nat} (hd : decode cc pc = .ok (.if_icmp .le off, 3)) (ht : (pc : Int) + off = (tgt : Int)) (K1 : x ≤ y → AW p l e R s m args below meth c D N q nL Q f lv tgt st) (K2 : ¬ (x ≤ y) → AW p l e R s m args below meth c D N q nL Q f lv (pc + 3) st) : AW p l e R s m args below meth c D N q nL Q f lv pc (.int y :: .int x :: st) :=
  fun H locs ls hP hS hv => lv_icmp_le C.1 C.2.1 hd ht (fun h => K1 h H locs ls hP hS hv) (fun h => K2 h H locs ls hP hS hv)
theorem aw_if_le (C : Cx p s m args meth c cc nL own D cy z N q) {x : Int32} {off : Int} {tgt : Nat} (hd : decode cc pc = .ok (.ifCond .le off, 3)) (ht : (pc : Int) + off = (tgt : Int)) (K1 : x ≤ 0 → AW p l e R s m args below meth c D N q nL Q f lv tgt st) (K2 : ¬ (x ≤ 0) → AW p l e R s m args below meth c D N q nL Q f lv (pc + 3) st) : AW p l e R s m args below meth c D N q nL Q f lv pc (.int x :: st) :=
  fun H locs ls hP hS hv => lv_if_le C.1 C.2.1 hd ht (fun h => K1 h H locs ls hP hS hv) (fun h => K2 h H locs ls hP hS hv)
/-- a field of an object: its class's place in the table, its slot; the link, of the own class or of a nest mate -/
def FL (own : String) (idx ci j : Nat) : Prop := ∃ (Cn : String) (T : u_T) (N0 : Nat), vwCl[ci]? = some (Cn, T, N0) ∧ j < N0 ∧ (∀ w ∈ u_ws Cn T N0, w ∈ gw_tbl) ∧ (T j).1 = Cn ∧ (Cond.fieldLink own idx Cn (T j).2.1 (T j).2.2.1 ∈ gw_tbl ∨ ∃ host, Cond.fieldLinkNest own idx Cn (T j).2.1 (T j).2.2.1 host ∈ nw_tbl)
def FP (own : String) (idx ci j : Nat) (ty : FieldType) : Prop := ∃ (Cn : String) (T : u_T) (N0 : Nat) (ty0 : Nat → FieldType), vwCl[ci]? = some (Cn, T, N0) ∧ j < N0 ∧ (∀ w ∈ u_ws Cn T N0, w ∈ gw_tbl) ∧ (T j).1 = Cn ∧ (Cond.fieldLink own idx Cn (T j).2.1 (T j).2.2.1 ∈ gw_tbl) ∧ (∀ k, k < N0 → parseFieldDescriptor (T k).2.2.1 = some (ty0 k)) ∧ (∀ a, a < N0 → ∀ b, b < N0 → a ≠ b → (T a).2.1 ≠ (T b).2.1) ∧ (T j).2.2.2 = false ∧ parseFieldDescriptor (T j).2.2.1 = some ty
theorem aw_get (C : Cx p s m args meth c cc nL own D cy z N q) {k ci j idx : Nat} {fs : List Value} {v : Value} (hd : decode cc pc = .ok (.getfield idx, 3)) (hF : FL own idx ci j) (hk : k < N) (hf : f k = .inr (ci, fs)) (hv1 : fs[j]? = some v) (K : AW p l e R s m args below meth c D N q nL Q f lv (pc + 3) (v :: st)) : AW p l e R s m args below meth c D N q nL Q f lv pc (.ref (q k) :: st) :=
  fun H locs ls hP hS hv => by
  obtain ⟨Cn, T, N0, h1, h2, h3, h4, h5⟩ := hF
  have he : (wl N q f)[k]? = some (q k, .inr (ci, fs)) := by rw [wl_get hk, hf]
  rcases h5 with h5 | ⟨host, h5⟩
  · exact va_get C.1 C.2.1 C.2.2.2.2.1 h3 C.2.2.2.1 C.2.2.2.2.2.1.1 hP k he h1 j h2 (C.2.2.2.2.1 _ h5) (fun x hx => by rw [h4] at hx; exact hx) hv1 hd (K H locs ls hP hS hv)
  · exact va_getN C.1 C.2.1 C.2.2.2.2.1 h3 C.2.2.2.1 C.2.2.2.2.2.1.1 hP k he h1 j h2 (va_Nw.use rfl (C.2.2.2.2.2.1.2.2 _ h5)) (fun x hx => by rw [h4] at hx; exact hx) hv1 hd (K H locs ls hP hS hv)
theorem aw_put (C : Cx p s m args meth c cc nL own D cy z N q) {k ci j idx : Nat} {fs : List Value} {v : Value} {ty : FieldType} {f' : wS} (hd : decode cc pc = .ok (.putfield idx, 3)) (hF : FP own idx ci j ty) (hk : k < N) (hf : f k = .inr (ci, fs)) (hn : narrow ty v = v) (hfit : fits ty v = true) (hj : j < fs.length) (hw : va_up f k (.inr (ci, fs.set j v)) = f') (K : AW p l e R s m args below meth c D N q nL Q f' lv (pc + 3) st) : AW p l e R s m args below meth c D N q nL Q f lv pc (v :: .ref (q k) :: st) :=
  fun H locs ls hP hS hv => by
  obtain ⟨Cn, T, N0, ty0, h1, h2, h3, h4, h5, h6, h7, h8, h9⟩ := hF
  have he : (wl N q f)[k]? = some (q k, .inr (ci, fs)) := by rw [wl_get hk, hf]
  refine va_put C.1 C.2.1 C.2.2.2.2.1 h3 ty0 h6 h7 C.2.2.2.1 C.2.2.2.2.2.1.1 hP (wl_D C.2.2.2.2.2.2.1) hS k he h1 j h2 (C.2.2.2.2.1 _ h5) (fun x hx => by rw [h4] at hx; exact hx) h8 h9 hn hfit hj hd (fun H1 locs1 hP1 _ hS1 => ?_)
  rw [wl_set, hw] at hP1
  exact K H1 locs1 ls hP1 hS1 hv
theorem aw_iald (C : Cx p s m args meth c cc nL own D cy z N q) {k n len : Nat} {g : Nat → Int32} {i v : Int32} (hd : decode cc pc = .ok (.iaload, 1)) (hk : k < N) (hf : f k = .inl (cy 1, len, .inl g)) (hi : i = nI n) (hn : n < len) (hL : len < 2147483648) (hg : g n = v) (K : AW p l e R s m args below meth c D N q nL Q f lv (pc + 1) (.int v :: st)) : AW p l e R s m args below meth c D N q nL Q f lv pc (.int i :: .ref (q k) :: st) :=
  fun H locs ls hP hS hv => by
  subst hi
  subst hg
  have he : (wl N q f)[k]? = some (q k, .inl (cy 1, len, .inl g)) := by rw [wl_get hk, hf]
  have h1 := K H locs ls hP hS hv
  rw [← nI_clamp (n := n) (by omega)] at h1
  exact va_iald C.1 C.2.1 C.2.2.2.2.2.1.1 hP k 1 he rfl (vp_in_nI hn (by omega)) hd h1
theorem aw_iast (C : Cx p s m args meth c cc nL own D cy z N q) {k n len : Nat} {g : Nat → Int32} {i x : Int32} {f' : wS} (hd : decode cc pc = .ok (.iastore, 1)) (hk : k < N) (hf : f k = .inl (cy 1, len, .inl g)) (hi : i = nI n) (hn : n < len) (hL : len < 2147483648) (hw : va_up f k (.inl (cy 1, len, .inl (upd g n x))) = f') (K : AW p l e R s m args below meth c D N q nL Q f' lv (pc + 1) st) : AW p l e R s m args below meth c D N q nL Q f lv pc (.int x :: .int i :: .ref (q k) :: st) :=
  fun H locs ls hP hS hv => by
  subst hi
  have he : (wl N q f)[k]? = some (q k, .inl (cy 1, len, .inl g)) := by rw [wl_get hk, hf]
  refine va_iast C.1 C.2.1 C.2.2.2.2.2.1.1 hP (wl_D C.2.2.2.2.2.2.1) hS k 1 he rfl (vp_in_nI hn (by omega)) hd (fun H1 locs1 hP1 _ hS1 => ?_)
  rw [wl_set, nI_clamp (n := n) (by omega), hw] at hP1
  exact K H1 locs1 ls hP1 hS1 hv
theorem aw_cald (C : Cx p s m args meth c cc nL own D cy z N q) {k n len : Nat} {g : Nat → Int32} {i v : Int32} (hd : decode cc pc = .ok (.caload, 1)) (hk : k < N) (hf : f k = .inl (cy 0, len, .inl g)) (hi : i = nI n) (hn : n < len) (hL : len < 2147483648) (hg : g n = v) (K : AW p l e R s m args below meth c D N q nL Q f lv (pc + 1) (.int v :: st)) : AW p l e R s m args below meth c D N q nL Q f lv pc (.int i :: .ref (q k) :: st) :=
  fun H locs ls hP hS hv => by
  subst hi
  subst hg
  have he : (wl N q f)[k]? = some (q k, .inl (cy 0, len, .inl g)) := by rw [wl_get hk, hf]
  have h1 := K H locs ls hP hS hv
  rw [← nI_clamp (n := n) (by omega)] at h1
  exact va_cald C.1 C.2.1 C.2.2.2.2.2.1.1 hP k 0 he rfl (vp_in_nI hn (by omega)) hd h1
theorem aw_cast (C : Cx p s m args meth c cc nL own D cy z N q) {k n len : Nat} {g : Nat → Int32} {i x : Int32} {f' : wS} (hd : decode cc pc = .ok (.castore, 1)) (hk : k < N) (hf : f k = .inl (cy 0, len, .inl g)) (hi : i = nI n) (hn : n < len) (hL : len < 2147483648) (hx : vp_nar .char x = x) (hw : va_up f k (.inl (cy 0, len, .inl (upd g n x))) = f') (K : AW p l e R s m args below meth c D N q nL Q f' lv (pc + 1) st) : AW p l e R s m args below meth c D N q nL Q f lv pc (.int x :: .int i :: .ref (q k) :: st) :=
  fun H locs ls hP hS hv => by
  subst hi
  have he : (wl N q f)[k]? = some (q k, .inl (cy 0, len, .inl g)) := by rw [wl_get hk, hf]
  refine va_cast C.1 C.2.1 C.2.2.2.2.2.1.1 hP (wl_D C.2.2.2.2.2.2.1) hS k 0 he rfl (vp_in_nI hn (by omega)) hd (fun H1 locs1 hP1 _ hS1 => ?_)
  rw [wl_set, nI_clamp (n := n) (by omega), hx, hw] at hP1
  exact K H1 locs1 ls hP1 hS1 hv
theorem aw_zald (C : Cx p s m args meth c cc nL own D cy z N q) {k n len : Nat} {g : Nat → Int32} {i v : Int32} (hd : decode cc pc = .ok (.baload, 1)) (hk : k < N) (hf : f k = .inl (cy 3, len, .inl g)) (hi : i = nI n) (hn : n < len) (hL : len < 2147483648) (hg : g n = v) (K : AW p l e R s m args below meth c D N q nL Q f lv (pc + 1) (.int v :: st)) : AW p l e R s m args below meth c D N q nL Q f lv pc (.int i :: .ref (q k) :: st) :=
  fun H locs ls hP hS hv => by
  subst hi
  subst hg
  have he : (wl N q f)[k]? = some (q k, .inl (cy 3, len, .inl g)) := by rw [wl_get hk, hf]
  have h1 := K H locs ls hP hS hv
  rw [← nI_clamp (n := n) (by omega)] at h1
  exact va_zald C.1 C.2.1 C.2.2.2.2.2.1.1 hP k 3 he rfl (vp_in_nI hn (by omega)) hd h1
theorem aw_zast (C : Cx p s m args meth c cc nL own D cy z N q) {k n len : Nat} {g : Nat → Int32} {i x : Int32} {f' : wS} (hd : decode cc pc = .ok (.bastore, 1)) (hk : k < N) (hf : f k = .inl (cy 3, len, .inl g)) (hi : i = nI n) (hn : n < len) (hL : len < 2147483648) (hx : vp_nar .boolean x = x) (hw : va_up f k (.inl (cy 3, len, .inl (upd g n x))) = f') (K : AW p l e R s m args below meth c D N q nL Q f' lv (pc + 1) st) : AW p l e R s m args below meth c D N q nL Q f lv pc (.int x :: .int i :: .ref (q k) :: st) :=
  fun H locs ls hP hS hv => by
  subst hi
  have he : (wl N q f)[k]? = some (q k, .inl (cy 3, len, .inl g)) := by rw [wl_get hk, hf]
  refine va_zast C.1 C.2.1 C.2.2.2.2.2.1.1 hP (wl_D C.2.2.2.2.2.2.1) hS k 3 he rfl (vp_in_nI hn (by omega)) hd (fun H1 locs1 hP1 _ hS1 => ?_)
  rw [wl_set, nI_clamp (n := n) (by omega), hx, hw] at hP1
  exact K H1 locs1 ls hP1 hS1 hv
theorem aw_lald (C : Cx p s m args meth c cc nL own D cy z N q) {k n len : Nat} {g : Nat → Int64} {i : Int32} {v : Int64} (hd : decode cc pc = .ok (.laload, 1)) (hk : k < N) (hf : f k = .inl (cy 2, len, .inr (.inl g))) (hi : i = nI n) (hn : n < len) (hL : len < 2147483648) (hg : g n = v) (K : AW p l e R s m args below meth c D N q nL Q f lv (pc + 1) (.long v :: st)) : AW p l e R s m args below meth c D N q nL Q f lv pc (.int i :: .ref (q k) :: st) :=
  fun H locs ls hP hS hv => by
  subst hi
  subst hg
  have he : (wl N q f)[k]? = some (q k, .inl (cy 2, len, .inr (.inl g))) := by rw [wl_get hk, hf]
  have h1 := K H locs ls hP hS hv
  rw [← nI_clamp (n := n) (by omega)] at h1
  exact va_lald C.1 C.2.1 C.2.2.2.2.2.1.1 hP k 2 he rfl (vp_in_nI hn (by omega)) hd h1
theorem aw_last (C : Cx p s m args meth c cc nL own D cy z N q) {k n len : Nat} {g : Nat → Int64} {i : Int32} {x : Int64} {f' : wS} (hd : decode cc pc = .ok (.lastore, 1)) (hk : k < N) (hf : f k = .inl (cy 2, len, .inr (.inl g))) (hi : i = nI n) (hn : n < len) (hL : len < 2147483648) (hw : va_up f k (.inl (cy 2, len, .inr (.inl (vp_updL g n x)))) = f') (K : AW p l e R s m args below meth c D N q nL Q f' lv (pc + 1) st) : AW p l e R s m args below meth c D N q nL Q f lv pc (.long x :: .int i :: .ref (q k) :: st) :=
  fun H locs ls hP hS hv => by
  subst hi
  have he : (wl N q f)[k]? = some (q k, .inl (cy 2, len, .inr (.inl g))) := by rw [wl_get hk, hf]
  refine va_last C.1 C.2.1 C.2.2.2.2.2.1.1 hP (wl_D C.2.2.2.2.2.2.1) hS k 2 he rfl (vp_in_nI hn (by omega)) hd (fun H1 locs1 hP1 _ hS1 => ?_)
  rw [wl_set, nI_clamp (n := n) (by omega), hw] at hP1
  exact K H1 locs1 ls hP1 hS1 hv
theorem aw_aald (C : Cx p s m args meth c cc nL own D cy z N q) {k n len b : Nat} {g : Nat → Option Nat} {i : Int32} (hd : decode cc pc = .ok (.aaload, 1)) (hk : k < N) (hf : f k = .inl (cy 4, len, .inr (.inr (.inr (.inr g))))) (hi : i = nI n) (hn : n < len) (hL : len < 2147483648) (hg : g n = some b) (K : AW p l e R s m args below meth c D N q nL Q f lv (pc + 1) (.ref b :: st)) : AW p l e R s m args below meth c D N q nL Q f lv pc (.int i :: .ref (q k) :: st) :=
  fun H locs ls hP hS hv => by
  subst hi
  have he : (wl N q f)[k]? = some (q k, .inl (cy 4, len, .inr (.inr (.inr (.inr g))))) := by rw [wl_get hk, hf]
  have hlt : (nI n).toNatClampNeg < len := by rw [nI_clamp (by omega)]; exact hn
  exact W.aald (v := .ref b) (ty := .array .int) C.1 C.2.1 (hP k _ he) ((C.2.2.2.2.2.1.1.2 4 _ rfl).1 len (fun j => va_rf (g j))) rfl (fun q => by cases q) (by show ¬ (_ ∨ (arrV _ _ _).slots.size ≤ _); rw [arrV_size]; exact vp_in_nI hn (by omega)) (by show (arrV _ _ _).slots[_]? = _; rw [arrV_read _ _ hlt, nI_clamp (by omega), hg]; rfl) rfl rfl hd (K H locs ls hP hS hv)
theorem aw_gets (C : Cx p s m args meth c cc nL own D cy z N q) {j idx : Nat} {host : String} (hd : decode cc pc = .ok (.getstatic idx, 3)) (hj : j < 4) (hl : Cond.fieldLink own idx "BondedWires" (zN j) "[I" ∈ gw_tbl ∨ Cond.fieldLinkNest own idx "BondedWires" (zN j) "[I" host ∈ nw_tbl) (K : AW p l e R s m args below meth c D N q nL Q f lv (pc + 3) (.ref (z j) :: st)) : AW p l e R s m args below meth c D N q nL Q f lv pc st :=
  fun H locs ls hP hS hv => by
  rcases hl with hl | hl
  · exact va_gets C.1 C.2.1 (C.2.2.2.2.2.1.2.1 j hj).1 hS C.2.2.2.1 (C.2.2.2.2.1 _ hl) (fun x hx => hx) hd (K H locs ls hP hS hv)
  · exact va_getsN C.1 C.2.1 (C.2.2.2.2.2.1.2.1 j hj).1 hS C.2.2.2.1 (va_Nw.use rfl (C.2.2.2.2.2.1.2.2 _ hl)) (fun x hx => hx) hd (K H locs ls hP hS hv)
theorem aw_ziald (C : Cx p s m args meth c cc nL own D cy z N q) {j n : Nat} {i : Int32} (hd : decode cc pc = .ok (.iaload, 1)) (hj : j < 4) (hi : i = nI n) (hn : n < zL j) (hL : n < 2147483648) (K : AW p l e R s m args below meth c D N q nL Q f lv (pc + 1) (.int (zF j n) :: st)) : AW p l e R s m args below meth c D N q nL Q f lv pc (.int i :: .ref (z j) :: st) :=
  fun H locs ls hP hS hv => by
  subst hi
  have hb : zL j < 2 ^ 31 := by unfold zL; split <;> decide
  exact va_ti (v := .int (zF j n)) C.1 C.2.1 (C.2.2.2.2.2.1.2.1 j hj).2 hS (vp_in_nI hn hb) (by rw [nI_clamp (by omega)]) hd (K H locs ls hP hS hv)
/-- the static facts of a call of an instance method (y of the class C), of a static one -/
def CV (own : String) (idx : Nat) (C : String) (y : MethodName) (bytes : ByteArray) (maxL : Nat) (ret : Option FieldType) (n : Nat) : Prop := (Cond.methodLink own idx y ∈ gw_tbl ∧ Cond.instanceMethod y ∈ gw_tbl ∧ Cond.selects C y y ∈ gw_tbl ∧ Cond.initialized C ∈ gw_tbl ∧ Cond.code y bytes maxL ret ∈ gw_tbl) ∧ y.cls = C ∧ y.cls ≠ "java/lang/invoke/MethodHandle" ∧ y.cls ≠ "java/lang/invoke/VarHandle" ∧ (parseMethodDescriptor y.desc).map (fun d => d.parameters.length) = some n
def CS (own : String) (idx : Nat) (y : MethodName) (bytes : ByteArray) (maxL : Nat) (ret : Option FieldType) (n : Nat) : Prop := (Cond.methodLink own idx y ∈ gw_tbl ∧ Cond.static y ∈ gw_tbl ∧ Cond.initialized y.cls ∈ gw_tbl ∧ Cond.code y bytes maxL ret ∈ gw_tbl) ∧ y.cls ≠ "java/lang/invoke/MethodHandle" ∧ y.cls ≠ "java/lang/invoke/VarHandle" ∧ (parseMethodDescriptor y.desc).map (fun d => d.parameters.length) = some n
theorem gw_code {y : MethodName} {bytes : ByteArray} {maxL : Nat} {ret : Option FieldType} (h : Cond.code y bytes maxL ret ∈ gw_tbl) : GoodIn gw_tbl (.code y bytes maxL ret :: gw_tbl) := fun w hw => (List.mem_cons.mp hw).elim (fun e => e ▸ gw_in _ h) (gw_in w)
theorem Pg_blind {cy : Nat → ClassId} {z : Nat → Nat} {sz : Nat} {av : List Value} {f : wS} : FrameBlind (Pg D cy z N q sz av f) := fun a U g mk h => by
  obtain ⟨q0, q1, qP, qE⟩ := h
  exact ⟨q0, q1, qP, qE.calling⟩
theorem aw_back {a : Array Value} {pc : Nat} {st0 rest : List Value} {post : Option Value → wS → Prop} {H : Heap} {locs : List Loc} {ls : Array Slot} (hr : va_Run p l e R s m args below meth c H locs 0 0 0 0 (F0 m pc ls st0) rest (Qg D N q post (wA N q H.size) a) (wA N q H.size)) (hS : va_S (wA N q s.heap.size) s.heap H locs) (hv : lv_has ls nL lv)
    (K : ∀ (r : Option Value) (g : wS), post r g → AW p l e R s m args below meth c D N q nL Q g lv (pc + 3) (r.toList ++ rest)) : W p l e R s m args below meth c H locs 0 0 Q (F0 m pc ls st0) := by
  intro T hT X
  obtain ⟨v, st₀, t, T', L, h0, X', hL, e1, e2, ⟨⟨r, g, hv1, hp, hb⟩, hz, hk⟩, st⟩ := hr T hT X
  cases hv1
  rw [h0] at hz hk
  have hsub : ∀ a, wA N q H.size a → wA N q s.heap.size a := fun a ha => ha.elim Or.inl (fun g => Or.inr (Nat.le_trans hS.1 g))
  obtain ⟨t2, a1, b1⟩ := K v g hp t.heap (locs ++ L) ls hb ⟨Nat.le_trans hS.1 hz, fun x h1 h2 => by rw [hk x (Nat.lt_of_lt_of_le h1 hS.1) (fun y => h2 (hsub x y))]; exact hS.2.1 x h1 h2, fun x hx => by
      rcases List.mem_append.mp hx with h | h
      · exact hS.2.2 x h
      · exact hsub _ (hL x h)⟩ hv T' e1 X'
  exact ⟨t2, st t2 a1, b1⟩
theorem aw_callV (C : Cx p s m args meth c cc nL own D cy z N q) {C0 : String} {idx n fr lo maxL k ci : Nat} {y : MethodName} {bytes : ByteArray} {ret : Option FieldType} {As As0 rest fs : List Value} {q0 : vw_C} {post : Option Value → wS → Prop} (hd : decode cc pc = .ok (.invokevirtual idx, 3)) (hc : CV own idx C0 y bytes maxL ret n) (hM : Ct l y bytes maxL ret fr lo D cy z N q (.ref (q k) :: As) f post) (hs : st = As0 ++ (.ref (q k) :: rest)) (hA : As.reverse = As0) (hn : As.length = n) (hR : fr + 1 ≤ R.frames ∧ 8 + (maxL + 11) + lo ≤ R.locals) (hw : (rest.map fun v => v.category).sum ≤ 8) (hk : k < N) (hf : f k = .inr (ci, fs)) (hq : vwCl[ci]? = some q0) (hq1 : q0.1 = C0) (K : ∀ (r : Option Value) (g : wS), post r g → AW p l e R s m args below meth c D N q nL Q g lv (pc + 3) (r.toList ++ rest)) : AW p l e R s m args below meth c D N q nL Q f lv pc st :=
  fun H locs ls hP hS hv => by
  subst hA
  subst hs
  subst hq1
  obtain ⟨⟨c1, c2, c3, c4, c5⟩, c6, c7, c8, c9⟩ := hc
  have he : (wl N q f)[k]? = some (q k, .inr (ci, fs)) := by rw [wl_get hk, hf]
  have ht := C.2.2.2.2.1
  have hini : (Cond.initialized y.cls).before args s = true := by rw [c6]; exact ht _ c4
  refine aw_back (va_runV (Ts := gw_tbl) (cc := cc) (nL := nL) (own := own) (n := n) (bytes := bytes) (maxL := maxL) (ret := ret) (rm := { frames := fr, cells := 0, slots := 0, locals := lo }) (As := As) (rest := rest) (g := F0 m pc ls (As.reverse ++ (.ref (q k) :: rest))) ⟨C.1, C.2.1, C.2.2.1, C.2.2.2.1, ht⟩ (hM H.size) ⟨callB_of n ht (gw_code c5) rfl rfl rfl hini (ht _ c1) ⟨c7, c8, c9⟩ hR, ht _ c2, ht _ c3⟩ ⟨Pg_blind, va_recv C.2.2.2.2.2.1.1 hP hq he, fun U hU hW => ⟨rfl, by rw [hU], by rw [hU]; exact hP, C.2.2.2.2.2.1.go hS hU hW⟩⟩ rfl hn hv.1 rfl (lv_room hw) hd ⟨Nat.zero_le _, Nat.zero_le _⟩) hS hv K
theorem aw_callS (C : Cx p s m args meth c cc nL own D cy z N q) {idx n fr lo maxL : Nat} {y : MethodName} {bytes : ByteArray} {ret : Option FieldType} {As As0 rest : List Value} {post : Option Value → wS → Prop} (hd : decode cc pc = .ok (.invokestatic idx, 3)) (hc : CS own idx y bytes maxL ret n) (hM : Ct l y bytes maxL ret fr lo D cy z N q As f post) (hs : st = As0 ++ rest) (hA : As.reverse = As0) (hn : As.length = n) (hR : fr + 1 ≤ R.frames ∧ 8 + (maxL + 11) + lo ≤ R.locals) (hw : (rest.map fun v => v.category).sum ≤ 8) (K : ∀ (r : Option Value) (g : wS), post r g → AW p l e R s m args below meth c D N q nL Q g lv (pc + 3) (r.toList ++ rest)) : AW p l e R s m args below meth c D N q nL Q f lv pc st :=
  fun H locs ls hP hS hv => by
  subst hA
  subst hs
  obtain ⟨⟨c1, c2, c4, c5⟩, c7, c8, c9⟩ := hc
  have ht := C.2.2.2.2.1
  refine aw_back (va_runS (Ts := gw_tbl) (cc := cc) (nL := nL) (own := own) (n := n) (bytes := bytes) (maxL := maxL) (ret := ret) (rm := { frames := fr, cells := 0, slots := 0, locals := lo }) (As := As) (rest := rest) (g := F0 m pc ls (As.reverse ++ rest)) ⟨C.1, C.2.1, C.2.2.1, C.2.2.2.1, ht⟩ (hM H.size) ⟨callB_of n ht (gw_code c5) rfl rfl rfl (ht _ c4) (ht _ c1) ⟨c7, c8, c9⟩ hR, ht _ c2⟩ ⟨Pg_blind, fun U hU hW => ⟨rfl, by rw [hU], by rw [hU]; exact hP, C.2.2.2.2.2.1.go hS hU hW⟩⟩ rfl hn hv.1 rfl (lv_room hw) hd ⟨Nat.zero_le _, Nat.zero_le _⟩) hS hv K
theorem aw_iret (C : Cx p s m args meth c cc nL own D cy z N q) {post : Option Value → wS → Prop} {x : Int32} (hr : meth.sig.returnType = some .int) (hd : decode cc pc = .ok (.ireturn, 1)) (hp : post (some (.int x)) f) : AW p l e R s m args below meth c D N q nL (MQ below (Qg D N q post (wA N q s.heap.size)) args s 0 0 (wA N q s.heap.size)) f lv pc [.int x] :=
  fun H locs ls hP hS hv => W.iret C.1 C.2.1 hr (fun t ht hW => ⟨⟨_, f, rfl, hp, by rw [ht]; exact hP⟩, hS.F ht⟩) hS.2.2 hd C.2.2.2.2.2.2.2
theorem aw_zret (C : Cx p s m args meth c cc nL own D cy z N q) {post : Option Value → wS → Prop} {x : Int32} {ty : FieldType} (hr : meth.sig.returnType = some ty) (hd : decode cc pc = .ok (.ireturn, 1)) (hn : narrow ty (.int x) = .int x) (hp : post (some (.int x)) f) : AW p l e R s m args below meth c D N q nL (MQ below (Qg D N q post (wA N q s.heap.size)) args s 0 0 (wA N q s.heap.size)) f lv pc [.int x] :=
  fun H locs ls hP hS hv => W.zret C.1 C.2.1 hr hn (fun t ht hW => ⟨⟨_, f, rfl, hp, by rw [ht]; exact hP⟩, hS.F ht⟩) hS.2.2 hd C.2.2.2.2.2.2.2
theorem aw_vret (C : Cx p s m args meth c cc nL own D cy z N q) {post : Option Value → wS → Prop} (hr : meth.sig.returnType = none) (hd : decode cc pc = .ok (.return_, 1)) (hp : post none f) : AW p l e R s m args below meth c D N q nL (MQ below (Qg D N q post (wA N q s.heap.size)) args s 0 0 (wA N q s.heap.size)) f lv pc [] :=
  fun H locs ls hP hS hv => W.vret C.1 C.2.1 hr (fun t ht hW => ⟨⟨_, f, rfl, hp, by rw [ht]; exact hP⟩, hS.F ht⟩) hS.2.2 hd C.2.2.2.2.2.2.2
/-- a method's contract out of its walk -/
theorem Ct.of {y : MethodName} {bytes : ByteArray} {maxL fr lo : Nat} {ret : Option FieldType} {av : List Value} {post : Option Value → wS → Prop} (hy : plainName y.cls = true) (hcls : y.cls = own) (hI : wI N q) (hlen : (lg_sl av).length ≤ maxL)
    (body : ∀ (p : Program) (e : Env) (s : State) (m : MethodId) (args : Array Value) (below : List Frame) (meth : Method) (c : Code), Cx p s m args meth c bytes maxL own D cy z N q → meth.sig.returnType = ret → AW p l e { frames := fr, cells := 0, slots := 0, locals := lo } s m args below meth c D N q maxL (MQ below (Qg D N q post (wA N q s.heap.size)) args s 0 0 (wA N q s.heap.size)) f (lv_args 0 av) 0 []) : Ct l y bytes maxL ret fr lo D cy z N q av f post := by
  intro sz
  refine Met.ofW (cc := bytes) (maxL := maxL) (ret := ret) hy rfl ?_
  intro p e s m args below meth c s₁ B hml hv
  obtain ⟨rfl, hsz, hP, hE⟩ := hv
  subst hsz
  have hts := atoms_spec (ws := .code y bytes maxL ret :: gw_tbl) B.pre
  have hown : s.vm.findClass own = some m.cls := by rw [← hcls]; exact findClass_of_methodNamed B.named
  have hl := lv_entry av (n := maxL) hlen
  rw [lg_entry_eq]
  exact body p e s m _ below meth c ⟨B.exec, B.bytes, hml, hown, fun w hw => hts w (List.mem_cons_of_mem _ hw), hE, hI, B.notSynchronized⟩ B.returns s.heap [] _ hP va_S.rf hl
/-- weaker locals -/
theorem aw_lv {lv' : List (Nat × Value)} (h : ∀ x ∈ lv', x ∈ lv) (K : AW p l e R s m args below meth c D N q nL Q f lv' pc st) : AW p l e R s m args below meth c D N q nL Q f lv pc st := fun H locs ls hP hS hv => K H locs ls hP hS (lv_mono hv h)
end FRAME
