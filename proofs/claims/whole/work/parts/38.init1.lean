-- constructors: a world that grows
def isMNest : Cond → Bool := fun w => match w with
  | .methodLinkNest _ _ _ _ => true
  | _ => false
def mw_tbl : List Cond := lw_tbl.filter isMNest
theorem mw_at {w : Cond} (i : Nat) (h : lw_tbl[i]? = some w) (hg : isMNest w = true) : w ∈ mw_tbl := List.mem_filter.mpr ⟨List.mem_of_getElem? h, hg⟩
theorem mw_warm {s U : State} (hW : s.WarmedH U.vm) (h : ∀ w ∈ mw_tbl, va_Nw w s) : ∀ w ∈ mw_tbl, va_Nw w U := by
  intro w hw
  have h1 := h w hw
  have h2 := (List.mem_filter.mp hw).2
  cases w <;> first | exact va_Nw.warmM hW h1 | cases h2
def fTS : String := "s20;g2;h6;t2;w10,0,8,1,12;w14,0,16,1,12;w18,1,24,2,16;w22,2,20,0,6;w26,0,32,1,9;"
/-- what a constructor takes as given beside its cells -/
def En (D : va_G) (cy : Nat → ClassId) (z : Nat → Nat) (sA sV : Nat) (v : Value) (A : Nat → Prop) (U : State) (H : Heap) : Prop := wE D cy z A U H ∧ Es sA sV v A U H ∧ (Cond.arrayOver (.array .int)).before #[] U = true ∧ vk_R "BondedWires" 69 fTS sA U ∧ ∀ w ∈ mw_tbl, va_Nw w U
theorem En.go {D : va_G} {cy : Nat → ClassId} {z : Nat → Nat} {sA sV : Nat} {v : Value} {A B : Nat → Prop} {s U : State} {H : Heap} {locs : List Loc} (h : En D cy z sA sV v A s s.heap) (hS : va_S A s.heap H locs) (hU : U.heap = H) (hW : s.WarmedH U.vm) (hAB : ∀ q, B q → A q) : En D cy z sA sV v B U U.heap := ⟨h.1.goB hS hU hW hAB, h.2.1.go hS hU hW hAB, over_moved hW.alike h.2.2.1, vk_R.warm hW h.2.2.2.1, mw_warm hW h.2.2.2.2⟩
theorem En.calling {D : va_G} {cy : Nat → ClassId} {z : Nat → Nat} {sA sV : Nat} {v : Value} {A : Nat → Prop} {U : State} {g : JFrame} {mk : MethodId} {a : Array Value} (h : En D cy z sA sV v A U U.heap) : En D cy z sA sV v A (U.calling g mk a) (U.calling g mk a).heap := ⟨h.1.calling, Es.moved (u := U) (U := U.calling g mk a) (Vm.Alike.refl U.vm) h.2.1, over_moved (Vm.Alike.refl U.vm) h.2.2.1, vk_R.same (u := U) (U := U.calling g mk a) rfl h.2.2.2.1, fun w hw => va_Nw.same (u := U) (U := U.calling g mk a) (by have h2 := (List.mem_filter.mp hw).2; cases w <;> first | rfl | cases h2) rfl (h.2.2.2.2 w hw)⟩
def AK (h0 sz : Nat) : Nat → Prop := fun a => a = h0 ∨ sz ≤ a
def PK (D : va_G) (cy : Nat → ClassId) (z : Nat → Nat) (sA sV : Nat) (v : Value) (sz h0 : Nat) (av : List Value) (ci : Nat) (fs0 : List Value) : Array Value → State → Prop := va_Pc (.ref h0 :: av) (fun U => U.heap.size = sz ∧ va_P D vwCl [(h0, .inr (ci, fs0))] U.heap ∧ En D cy z sA sV v (AK h0 sz) U U.heap)
def QK (D : va_G) (h0 sz : Nat) (post : va_W → Prop) : Array Value → State → Outcome → State → Prop := fun _ st oc t => (oc = .returned none ∧ ∃ w1, post w1 ∧ va_P D vwCl w1 t.heap ∧ va_D (AK h0 sz) w1) ∧ va_F (AK h0 sz) st t
/-- a constructor's contract: out of its one cell it makes the cells w1 -/
def Ck (l : Launch) (y : MethodName) (bytes : ByteArray) (maxL fr lo mc ms : Nat) (D : va_G) (cy : Nat → ClassId) (z : Nat → Nat) (sA sV : Nat) (v : Value) (h0 : Nat) (av : List Value) (ci : Nat) (fs0 : List Value) (post : va_W → Prop) : Prop :=
  ∀ sz, Met l y (.code y bytes maxL none :: gw_tbl) { frames := fr, cells := mc, slots := ms, locals := lo } (PK D cy z sA sV v sz h0 av ci fs0) (QK D h0 sz post) mc ms (AK h0 sz)
theorem PK_blind {D : va_G} {cy : Nat → ClassId} {z : Nat → Nat} {sA sV sz h0 ci : Nat} {v : Value} {av fs0 : List Value} : FrameBlind (PK D cy z sA sV v sz h0 av ci fs0) := fun a U g mk h => by
  obtain ⟨q0, q1, qP, qE⟩ := h
  exact ⟨q0, q1, qP, qE.calling⟩
section INIT
variable {p : Program} {l : Launch} {e : Env} {R : Room} {s : State} {m : MethodId} {args : Array Value} {below : List Frame} {meth : Method} {c : Code} {Q : State → Prop}
variable {cc : ByteArray} {nL : Nat} {own : String} {D : va_G} {cy : Nat → ClassId} {z : Nat → Nat} {sA sV : Nat} {v : Value} {A : Nat → Prop} {k n : Nat}
variable {ws : va_W} {lv : List (Nat × Value)} {pc : Nat} {st : List Value}
def AN (p : Program) (l : Launch) (e : Env) (R : Room) (s : State) (m : MethodId) (args : Array Value) (below : List Frame) (meth : Method) (c : Code) (D : va_G) (A : Nat → Prop) (nL : Nat) (Q : State → Prop) (k n : Nat) (ws : va_W) (lv : List (Nat × Value)) (pc : Nat) (st : List Value) : Prop :=
  ∀ (H : Heap) (locs : List Loc) (ls : Array Slot), va_P D vwCl ws H → va_D A ws → va_S A s.heap H locs → lv_has ls nL lv → W p l e R s m args below meth c H locs k n Q (F0 m pc ls st)
def Cn (p : Program) (s : State) (m : MethodId) (args : Array Value) (meth : Method) (c : Code) (cc : ByteArray) (nL : Nat) (own : String) (D : va_G) (cy : Nat → ClassId) (z : Nat → Nat) (sA sV : Nat) (v : Value) (A : Nat → Prop) : Prop :=
  p.tables.exec = Jvm.exec ∧ c.code = cc ∧ c.maxLocals = nL ∧ s.vm.findClass own = some m.cls ∧ (∀ w ∈ gw_tbl, w.before args s = true) ∧ En D cy z sA sV v A s s.heap ∧ (∀ a : Nat, s.heap.size ≤ a → A a) ∧ meth.locks = false ∧ (own ≠ RL → meth.name = "<init>")
theorem oi_in : Cond.instanceMethod objectInit ∈ gw_tbl := gw_at 70 (by decide +kernel) rfl
theorem oi_co : Cond.code objectInit ⟨#[0xb1]⟩ 1 none ∈ gw_tbl := gw_at 71 (by decide +kernel) rfl
theorem an_aload_n (C : Cn p s m args meth c cc nL own D cy z sA sV v A) {j : Fin 4} {i x : Nat} (hd : decode cc pc = .ok (.aload_n j, 1)) (hi : (j : Nat) = i) (hl : lk lv i = some (.ref x)) (K : AN p l e R s m args below meth c D A nL Q k n ws lv (pc + 1) (.ref x :: st)) : AN p l e R s m args below meth c D A nL Q k n ws lv pc st := fun H locs ls hP hD hS hv => lv_aload_n C.1 C.2.1 hd hi (lk_at hv hl) (K H locs ls hP hD hS hv)
theorem an_iload_n (C : Cn p s m args meth c cc nL own D cy z sA sV v A) {j : Fin 4} {i : Nat} {x : Int32} (hd : decode cc pc = .ok (.iload_n j, 1)) (hi : (j : Nat) = i) (hl : lk lv i = some (.int x)) (K : AN p l e R s m args below meth c D A nL Q k n ws lv (pc + 1) (.int x :: st)) : AN p l e R s m args below meth c D A nL Q k n ws lv pc st := fun H locs ls hP hD hS hv => lv_iload_n C.1 C.2.1 hd hi (lk_at hv hl) (K H locs ls hP hD hS hv)
theorem an_dup (C : Cn p s m args meth c cc nL own D cy z sA sV v A) {w : Value} (hd : decode cc pc = .ok (.dup, 1)) (hc : w.category = 1) (K : AN p l e R s m args below meth c D A nL Q k n ws lv (pc + 1) (w :: w :: st)) : AN p l e R s m args below meth c D A nL Q k n ws lv pc (w :: st) := fun H locs ls hP hD hS hv => lv_dup C.1 C.2.1 hd hc (K H locs ls hP hD hS hv)
theorem an_pop (C : Cn p s m args meth c cc nL own D cy z sA sV v A) {w : Value} (hd : decode cc pc = .ok (.pop, 1)) (hc : w.category = 1) (K : AN p l e R s m args below meth c D A nL Q k n ws lv (pc + 1) st) : AN p l e R s m args below meth c D A nL Q k n ws lv pc (w :: st) := fun H locs ls hP hD hS hv => lv_pop C.1 C.2.1 hd hc (K H locs ls hP hD hS hv)
theorem an_iconst (C : Cn p s m args meth c cc nL own D cy z sA sV v A) {x : Int} {w : Int32} (hd : decode cc pc = .ok (.iconst x, 1)) (hx : Int32.ofInt x = w) (K : AN p l e R s m args below meth c D A nL Q k n ws lv (pc + 1) (.int w :: st)) : AN p l e R s m args below meth c D A nL Q k n ws lv pc st := fun H locs ls hP hD hS hv => lv_iconst C.1 C.2.1 hd hx (K H locs ls hP hD hS hv)
theorem an_bipush (C : Cn p s m args meth c cc nL own D cy z sA sV v A) {x : Int} {w : Int32} (hd : decode cc pc = .ok (.bipush x, 2)) (hx : (Int8.ofInt x).toInt32 = w) (K : AN p l e R s m args below meth c D A nL Q k n ws lv (pc + 2) (.int w :: st)) : AN p l e R s m args below meth c D A nL Q k n ws lv pc st := fun H locs ls hP hD hS hv => lv_bipush C.1 C.2.1 hd hx (K H locs ls hP hD hS hv)
theorem an_sipush (C : Cn p s m args meth c cc nL own D cy z sA sV v A) {x : Int} {w : Int32} (hd : decode cc pc = .ok (.sipush x, 3)) (hx : (Int16.ofInt x).toInt32 = w) (K : AN p l e R s m args below meth c D A nL Q k n ws lv (pc + 3) (.int w :: st)) : AN p l e R s m args below meth c D A nL Q k n ws lv pc st := fun H locs ls hP hD hS hv => lv_sipush C.1 C.2.1 hd hx (K H locs ls hP hD hS hv)
theorem an_goto (C : Cn p s m args meth c cc nL own D cy z sA sV v A) {off : Int} {tgt : Nat} (hd : decode cc pc = .ok (.goto off, 3)) (ht : (pc : Int) + off = (tgt : Int)) (K : AN p l e R s m args below meth c D A nL Q k n ws lv tgt st) : AN p l e R s m args below meth c D A nL Q k n ws lv pc st := fun H locs ls hP hD hS hv => lv_goto C.1 C.2.1 hd ht (K H locs ls hP hD hS hv)
theorem an_istore_n (C : Cn p s m args meth c cc nL own D cy z sA sV v A) {j : Fin 4} {i : Nat} {x : Int32} {lv' : List (Nat × Value)} (hd : decode cc pc = .ok (.istore_n j, 1)) (hi : (j : Nat) = i) (hn : i < nL) (hl : lset i (.int x) lv = lv') (K : AN p l e R s m args below meth c D A nL Q k n ws lv' (pc + 1) st) : AN p l e R s m args below meth c D A nL Q k n ws lv pc (.int x :: st) := fun H locs ls hP hD hS hv => lv_istore_n C.1 C.2.1 hd hi hv hn rfl (fun ls hv => K H locs ls hP hD hS (lv_mono hv (fun y hy => lset_mem (by rw [hl]; exact hy))))
theorem an_iinc (C : Cn p s m args meth c cc nL own D cy z sA sV v A) {i a : Nat} {x : Int} {lv' : List (Nat × Value)} (hd : decode cc pc = .ok (.iinc i x, 3)) (hl0 : lk lv i = some (.int (nI a))) (hx : Int32.ofInt x = nI 1) (hn : i < nL) (hl : lset i (.int (nI (a + 1))) lv = lv') (K : AN p l e R s m args below meth c D A nL Q k n ws lv' (pc + 3) st) : AN p l e R s m args below meth c D A nL Q k n ws lv pc st := fun H locs ls hP hD hS hv => by
  obtain ⟨k9, hk9⟩ := List.getElem?_of_mem (lk_mem hl0)
  exact lv_iinc (v := nI (a + 1)) C.1 C.2.1 hd hv hk9 (by rw [hx, nI_add]) hn rfl (fun ls hv => K H locs ls hP hD hS (lv_mono hv (fun y hy => lset_mem (by rw [hl]; exact hy))))
theorem an_icmp_ge (C : Cn p s m args meth c cc nL own D cy z sA sV v A) {a b : Nat} {off : Int} {tgt : Nat} (hd : decode cc pc = .ok (.if_icmp .ge off, 3)) (ht : (pc : Int) + off = (tgt : Int)) (ha : a < 2147483648) (hb : b < 2147483648) (K1 : b ≤ a → AN p l e R s m args below meth c D A nL Q k n ws lv tgt st) (K2 : a < b → AN p l e R s m args below meth c D A nL Q k n ws lv (pc + 3) st) : AN p l e R s m args below meth c D A nL Q k n ws lv pc (.int (nI b) :: .int (nI a) :: st) := fun H locs ls hP hD hS hv => lv_icmp_ge C.1 C.2.1 hd ht (fun h => K1 ((nI_leI hb ha).mp h) H locs ls hP hD hS hv) (fun h => K2 (Nat.lt_of_not_le fun g => h ((nI_leI hb ha).mpr g)) H locs ls hP hD hS hv)
theorem an_objInit (C : Cn p s m args meth c cc nL own D cy z sA sV v A) {idx a : Nat} (hd : decode cc pc = .ok (.invokespecial idx, 3)) (hl : Cond.methodLink own idx objectInit ∈ gw_tbl) (hr : 1 ≤ R.frames ∧ 12 ≤ R.locals) (K : AN p l e R s m args below meth c D A nL Q k n ws lv (pc + 3) []) : AN p l e R s m args below meth c D A nL Q k n ws lv pc [.ref a] := fun H locs ls hP hD hS hv => W.objInit C.1 C.2.1 C.2.2.2.1 (C.2.2.2.2.1 _ hl) (C.2.2.2.2.1 _ oi_in) (C.2.2.2.2.1 _ oi_co) rfl (by rw [C.2.2.1]; exact hv.1) rfl hd hr.1 (by show 2 * 0 + 0 + 12 ≤ _; omega) (K H locs ls hP hD hS hv)
theorem an_newa (C : Cn p s m args meth c cc nL own D cy z sA sV v A) {t len : Nat} {atype : ArrayType} {ty : FieldType} {a0 : vp_A} (hd : decode cc pc = .ok (.newarray atype, 2)) (hty : newarray.typeOf atype = ty) (hw : Cond.arrayClass ty ∈ gw_tbl) (ht : (tyL cy)[t]? = some (cy t, ty)) (hra : ∀ (U : State) (cA : ClassId), va_RA U cA ty → U.vm.findClass ("[" ++ ty.toString) = some cA) (ha : ∀ cA : ClassId, vp_cell cA a0 = arrV cA len (fun _ => defaultValue ty)) (hlen : len ≤ 1000) (hby : componentBytes ty ≤ 8) (hk : k + 1 ≤ R.cells) (hn : n + len ≤ R.slots) (K : ∀ a : Nat, AN p l e R s m args below meth c D A nL Q (k + 1) (n + len) (ws ++ [(a, .inl (cy t, a0))]) lv (pc + 2) (.ref a :: st)) : AN p l e R s m args below meth c D A nL Q k n ws lv pc (.int (nI len) :: st) := fun H locs ls hP hD hS hv => by
  subst hty
  refine va_newaK C.1 C.2.1 (C.2.2.2.2.1 _ hw) rfl hd rfl (nI_pos (by omega)) (nI_clamp (by omega)) (Nat.le_trans (Nat.mul_le_mul hlen hby) (by decide)) hk hn rfl fun H1 cA e1 z1 o1 hAr hNm => ?_
  have hcA : cA = cy t := Option.some.inj (hNm.symm.trans (hra s (cy t) (C.2.2.2.2.2.1.1.1.2 t _ ht).2))
  subst hcA
  have hkp : ∀ (i : Nat) (x : Nat × va_E), ws[i]? = some x → H1[x.1]? = H[x.1]? := fun i x hx => o1 x.1 ((hP i x hx).lt)
  refine K H.size H1 locs ls ((hP.kept hkp).app (fun i x hx => ?_)) (hD.push hP rfl (C.2.2.2.2.2.2.1 _ hS.1)) ⟨Nat.le_trans hS.1 (by omega), fun x h1 h2 => (o1 x (Nat.lt_of_lt_of_le h1 hS.1)).trans (hS.2.1 x h1 h2), hS.2.2⟩ hv
  have hz : i < 1 := (List.getElem?_eq_some_iff.mp hx).1
  rw [show i = 0 by omega] at hx
  cases hx
  show H1[H.size]? = some (vp_cell _ _)
  rw [ha]
  exact e1
theorem an_mnew (C : Cn p s m args meth c cc nL own D cy z sA sV v A) {idx N M : Nat} (hd : decode cc pc = .ok (.multianewarray idx 2, 4)) (hl : Cond.classLink own idx "[[I" ∈ gw_tbl) (hw : Cond.arrayClass .int ∈ gw_tbl) (hN : N ≤ 1000) (hM : M ≤ 1000) (hk : k + (1 + N) ≤ R.cells) (hn : n + (N + N * M) ≤ R.slots) (K : ∀ a : Nat, AN p l e R s m args below meth c D A nL Q (k + 1 + N) (n + N + N * M) (ws ++ (a, .inl (cy 4, N, .inr (.inr (.inr (.inr (fun j => if j < N then some (a + 1 + j) else none)))))) :: (List.range N).map (fun j => (a + 1 + j, .inl (cy 1, M, .inl (fun _ => nI 0))))) lv (pc + 4) (.ref a :: st)) : AN p l e R s m args below meth c D A nL Q k n ws lv pc (.int (nI M) :: .int (nI N) :: st) := fun H locs ls hP hD hS hv => by
  have eN : (nI N).toNatClampNeg = N := nI_clamp (by omega)
  have eM : (nI M).toNatClampNeg = M := nI_clamp (by omega)
  refine W.mnew C.1 C.2.1 C.2.2.2.1 (C.2.2.2.2.1 _ hl) (over_moved (Vm.Alike.refl s.vm) C.2.2.2.2.2.1.2.2.1) (C.2.2.2.2.1 _ hw) hd (nI_pos (by omega)) (nI_pos (by omega)) eN eM hN hM hk hn (fun cA cI H1 ls1 hcA hcI hM1 hls1 => ?_)
  rw [show k + (1 + N) = k + 1 + N by omega, show n + (N + N * M) = n + N + N * M by omega]
  have z1 := hM1.1
  have hA4 : cA = cy 4 := Option.some.inj (hcA.symm.trans (C.2.2.2.2.2.1.1.1.2 4 _ rfl).2)
  have hA1 : cI = cy 1 := Option.some.inj (hcI.symm.trans (C.2.2.2.2.2.1.1.1.2 1 _ rfl).2)
  subst hA4
  subst hA1
  have hkp : ∀ (i : Nat) (x : Nat × va_E), ws[i]? = some x → H1[x.1]? = H[x.1]? := fun i x hx => hM1.old ((hP i x hx).lt)
  have hnew : ∀ (i : Nat) (x : Nat × va_E), ((H.size, (.inl (cy 4, N, .inr (.inr (.inr (.inr (fun j => if j < N then some (H.size + 1 + j) else none))))) : va_E)) :: (List.range N).map (fun j => (H.size + 1 + j, (.inl (cy 1, M, .inl (fun _ => nI 0)) : va_E))))[i]? = some x → x.1 = H.size + i ∧ va_at D vwCl x H1 := by
    intro i x hx
    cases i with
    | zero =>
      cases hx
      refine ⟨rfl, ?_⟩
      show H1[H.size]? = some (vp_cell _ _)
      rw [hM1.top, vp_cell_q]
      unfold mn_o
      congr 1
      congr 1
      funext j
      by_cases g : j < N
      · rw [if_pos g, if_pos g]; rfl
      · rw [if_neg g, if_neg g]; rfl
    | succ i =>
      rw [List.getElem?_cons_succ, List.getElem?_map] at hx
      by_cases hi : i < N
      · rw [List.getElem?_range hi] at hx
        cases hx
        refine ⟨by show H.size + 1 + i = H.size + (i + 1); omega, ?_⟩
        show H1[H.size + 1 + i]? = some (vp_cell _ _)
        rw [hM1.row hi]
        rfl
      · rw [List.getElem?_eq_none (by rw [List.length_range]; omega)] at hx
        cases hx
  refine K H.size H1 _ ls ((hP.kept hkp).app (fun i x hx => (hnew i x hx).2)) ⟨fun i j x y hx hy hxy => ?_, fun i x hx => ?_⟩ ⟨Nat.le_trans hS.1 (by omega), fun x h1 h2 => (hM1.old (Nat.lt_of_lt_of_le h1 hS.1)).trans (hS.2.1 x h1 h2), fun x hx => ?_⟩ hv
  · rw [List.getElem?_append] at hx hy
    split at hx <;> split at hy
    · exact hD.1 i j x y hx hy hxy
    · exact absurd ((hP i x hx).lt) (by rw [hxy, (hnew _ _ hy).1]; omega)
    · exact absurd ((hP j y hy).lt) (by rw [← hxy, (hnew _ _ hx).1]; omega)
    · have e9 := (hnew _ _ hx).1
      have e8 := (hnew _ _ hy).1
      omega
  · rw [List.getElem?_append] at hx
    split at hx
    · exact hD.2 i x hx
    · rw [(hnew _ _ hx).1]
      exact C.2.2.2.2.2.2.1 _ (Nat.le_trans hS.1 (Nat.le_add_right _ _))
  · rcases hls1 x hx with h | h
    · exact hS.2.2 x h
    · rw [h]
      exact C.2.2.2.2.2.2.1 _ hS.1
def FF (own : String) (idx ci j : Nat) (ty : FieldType) : Prop := ∃ (T : u_T) (N0 : Nat) (ty0 : Nat → FieldType), vwCl[ci]? = some (own, T, N0) ∧ j < N0 ∧ (∀ w ∈ u_ws own T N0, w ∈ gw_tbl) ∧ (T j).1 = own ∧ (Cond.fieldLink own idx own (T j).2.1 (T j).2.2.1 ∈ gw_tbl) ∧ (∀ k, k < N0 → parseFieldDescriptor (T k).2.2.1 = some (ty0 k)) ∧ (∀ a, a < N0 → ∀ b, b < N0 → a ≠ b → (T a).2.1 ≠ (T b).2.1) ∧ (T j).2.2.2 = true ∧ parseFieldDescriptor (T j).2.2.1 = some ty
theorem an_putF (C : Cn p s m args meth c cc nL own D cy z sA sV v A) {i a ci j idx : Nat} {fs : List Value} {w : Value} {ty : FieldType} {ws' : va_W} (hne : own ≠ RL) (hd : decode cc pc = .ok (.putfield idx, 3)) (hF : FF own idx ci j ty) (he : ws[i]? = some (a, .inr (ci, fs))) (hn : narrow ty w = w) (hfit : fits ty w = true) (hj : j < fs.length) (hw : ws.set i (a, .inr (ci, fs.set j w)) = ws') (K : AN p l e R s m args below meth c D A nL Q k n ws' lv (pc + 3) st) : AN p l e R s m args below meth c D A nL Q k n ws lv pc (w :: .ref a :: st) := fun H locs ls hP hD hS hv => by
  obtain ⟨T, N0, ty0, h1, h2, h3, h4, h5, h6, h7, h8, h9⟩ := hF
  refine va_putF C.1 C.2.1 C.2.2.2.2.1 h3 ty0 h6 h7 C.2.2.2.1 C.2.2.2.2.2.1.1.1 hP hD hS i he h1 j h2 (C.2.2.2.2.1 _ h5) (fun x hx => by rw [h4] at hx; exact hx) h8 (C.2.2.2.2.2.2.2.2 hne) h4 h9 hn hfit hj hd (fun H1 locs1 hP1 hD1 hS1 => ?_)
  rw [hw] at hP1 hD1
  exact K H1 locs1 ls hP1 hD1 hS1 hv
theorem an_put (C : Cn p s m args meth c cc nL own D cy z sA sV v A) {i a ci j idx : Nat} {fs : List Value} {w : Value} {ty : FieldType} {ws' : va_W} (hd : decode cc pc = .ok (.putfield idx, 3)) (hF : FP own idx ci j ty) (he : ws[i]? = some (a, .inr (ci, fs))) (hn : narrow ty w = w) (hfit : fits ty w = true) (hj : j < fs.length) (hw : ws.set i (a, .inr (ci, fs.set j w)) = ws') (K : AN p l e R s m args below meth c D A nL Q k n ws' lv (pc + 3) st) : AN p l e R s m args below meth c D A nL Q k n ws lv pc (w :: .ref a :: st) := fun H locs ls hP hD hS hv => by
  obtain ⟨Cn, T, N0, ty0, h1, h2, h3, h4, h5, h6, h7, h8, h9⟩ := hF
  refine va_put C.1 C.2.1 C.2.2.2.2.1 h3 ty0 h6 h7 C.2.2.2.1 C.2.2.2.2.2.1.1.1 hP hD hS i he h1 j h2 (C.2.2.2.2.1 _ h5) (fun x hx => by rw [h4] at hx; exact hx) h8 h9 hn hfit hj hd (fun H1 locs1 hP1 hD1 hS1 => ?_)
  rw [hw] at hP1 hD1
  exact K H1 locs1 ls hP1 hD1 hS1 hv
theorem an_get (C : Cn p s m args meth c cc nL own D cy z sA sV v A) {i a ci j idx : Nat} {fs : List Value} {w : Value} (hd : decode cc pc = .ok (.getfield idx, 3)) (hF : FL own idx ci j) (he : ws[i]? = some (a, .inr (ci, fs))) (hv1 : fs[j]? = some w) (K : AN p l e R s m args below meth c D A nL Q k n ws lv (pc + 3) (w :: st)) : AN p l e R s m args below meth c D A nL Q k n ws lv pc (.ref a :: st) := fun H locs ls hP hD hS hv => by
  obtain ⟨Cn, T, N0, h1, h2, h3, h4, h5⟩ := hF
  rcases h5 with h5 | ⟨host, h5⟩
  · exact va_get C.1 C.2.1 C.2.2.2.2.1 h3 C.2.2.2.1 C.2.2.2.2.2.1.1.1 hP i he h1 j h2 (C.2.2.2.2.1 _ h5) (fun x hx => by rw [h4] at hx; exact hx) hv1 hd (K H locs ls hP hD hS hv)
  · exact va_getN C.1 C.2.1 C.2.2.2.2.1 h3 C.2.2.2.1 C.2.2.2.2.2.1.1.1 hP i he h1 j h2 (va_Nw.use rfl (C.2.2.2.2.2.1.1.2.2 _ h5)) (fun x hx => by rw [h4] at hx; exact hx) hv1 hd (K H locs ls hP hD hS hv)
theorem an_iast (C : Cn p s m args meth c cc nL own D cy z sA sV v A) {i a j len : Nat} {g : Nat → Int32} {x : Int32} {ws' : va_W} (hd : decode cc pc = .ok (.iastore, 1)) (he : ws[i]? = some (a, .inl (cy 1, len, .inl g))) (hj : j < len) (hL : len < 2147483648) (hw : ws.set i (a, .inl (cy 1, len, .inl (upd g j x))) = ws') (K : AN p l e R s m args below meth c D A nL Q k n ws' lv (pc + 1) st) : AN p l e R s m args below meth c D A nL Q k n ws lv pc (.int x :: .int (nI j) :: .ref a :: st) := fun H locs ls hP hD hS hv => by
  refine va_iast C.1 C.2.1 C.2.2.2.2.2.1.1.1 hP hD hS i 1 he rfl (vp_in_nI hj (by omega)) hd (fun H1 locs1 hP1 hD1 hS1 => ?_)
  rw [nI_clamp (n := j) (by omega), hw] at hP1 hD1
  exact K H1 locs1 ls hP1 hD1 hS1 hv
theorem an_iald (C : Cn p s m args meth c cc nL own D cy z sA sV v A) {i a j len : Nat} {g : Nat → Int32} (hd : decode cc pc = .ok (.iaload, 1)) (he : ws[i]? = some (a, .inl (cy 1, len, .inl g))) (hj : j < len) (hL : len < 2147483648) (K : AN p l e R s m args below meth c D A nL Q k n ws lv (pc + 1) (.int (g j) :: st)) : AN p l e R s m args below meth c D A nL Q k n ws lv pc (.int (nI j) :: .ref a :: st) := fun H locs ls hP hD hS hv => by
  refine va_iald C.1 C.2.1 C.2.2.2.2.2.1.1.1 hP i 1 he rfl (vp_in_nI hj (by omega)) hd ?_
  rw [nI_clamp (n := j) (by omega)]
  exact K H locs ls hP hD hS hv
theorem an_ldcS (C : Cn p s m args meth c cc nL own D cy z sA sV v A) (hown : own = "BondedWires") (hd : decode cc pc = .ok (.ldc 69, 2)) (K : AN p l e R s m args below meth c D A nL Q k n ws lv (pc + 2) (.ref sA :: st)) : AN p l e R s m args below meth c D A nL Q k n ws lv pc st := fun H locs ls hP hD hS hv => by
  subst hown
  exact va_ldcS C.1 C.2.1 C.2.2.2.1 C.2.2.2.2.2.1.2.2.2.1 hd (K H locs ls hP hD hS hv)
/-- new -/
theorem an_new (C : Cn p s m args meth c cc nL own D cy z sA sV v A) {idx ci N0 : Nat} {C0 : String} {T : u_T} {ty : Nat → FieldType} {fs : List Value} (hd : decode cc pc = .ok (.new idx, 3)) (hc : vwCl[ci]? = some (C0, T, N0)) (h1 : Cond.classLink own idx C0 ∈ gw_tbl ∧ Cond.instantiable C0 N0 ∈ gw_tbl ∧ Cond.initialized C0 ∈ gw_tbl) (hin : ∀ w ∈ u_ws C0 T N0, w ∈ gw_tbl) (hty : ∀ k, k < N0 → parseFieldDescriptor (T k).2.2.1 = some (ty k)) (hfs : ∀ j, j < N0 → defaultValue (ty j) = vp_V fs j) (hk : k + 1 ≤ R.cells) (hn : n + N0 ≤ R.slots) (K : ∀ a : Nat, AN p l e R s m args below meth c D A nL Q (k + 1) (n + N0) (ws ++ [(a, .inr (ci, fs))]) lv (pc + 3) (.ref a :: st)) : AN p l e R s m args below meth c D A nL Q k n ws lv pc st := fun H locs ls hP hD hS hv =>
  va_new C.1 C.2.1 C.2.2.2.2.1 hin ty hty C.2.2.2.1 (C.2.2.2.2.1 _ h1.1) (C.2.2.2.2.1 _ h1.2.1) (C.2.2.2.2.1 _ h1.2.2) C.2.2.2.2.2.1.1.1 hP hD hS C.2.2.2.2.2.2.1 hc hfs hk hn hd (fun a H1 hP1 hD1 hS1 => K a H1 locs ls hP1 hD1 hS1 hv)
/-- behind a call that made cells out of the last one -/
theorem va_last1 {ws w1 : va_W} {a : Nat} {e0 : va_E} {H H1 : Heap} {A : Nat → Prop} (hP : va_P D vwCl (ws ++ [(a, e0)]) H) (hD : va_D A (ws ++ [(a, e0)])) (hA : ∀ x : Nat, H.size ≤ x → A x) (hk : ∀ x : Nat, x < H.size → ¬ AK a H.size x → H1[x]? = H[x]?) (hP1 : va_P D vwCl w1 H1) (hD1 : va_D (AK a H.size) w1) : va_P D vwCl (ws ++ w1) H1 ∧ va_D A (ws ++ w1) := by
  have hlast : (ws ++ [(a, e0)])[ws.length]? = some (a, e0) := by simp
  have hold : ∀ (i : Nat) (x : Nat × va_E), ws[i]? = some x → (ws ++ [(a, e0)])[i]? = some x := fun i x hx => by
    rw [List.getElem?_append_left (List.getElem?_eq_some_iff.mp hx).1]
    exact hx
  have hne : ∀ (i : Nat) (x : Nat × va_E), ws[i]? = some x → ¬ AK a H.size x.1 := fun i x hx hA1 => by
    have hi := (List.getElem?_eq_some_iff.mp hx).1
    rcases hA1 with h | h
    · have := hD.1 i ws.length x (a, e0) (hold i x hx) hlast h
      omega
    · exact absurd ((hP i x (hold i x hx)).lt) (by omega)
  have hAa : A a := hD.2 ws.length _ hlast
  refine ⟨va_P.app (fun i x hx => (hP i x (hold i x hx)).kept (hk x.1 ((hP i x (hold i x hx)).lt) (hne i x hx))) hP1, fun i j x y hx hy hxy => ?_, fun i x hx => ?_⟩
  · rw [List.getElem?_append] at hx hy
    split at hx <;> split at hy
    · exact hD.1 i j x y (hold i x hx) (hold j y hy) hxy
    · exact absurd (hD1.2 _ y hy) (by rw [← hxy]; exact hne i x hx)
    · exact absurd (hD1.2 _ x hx) (by rw [hxy]; exact hne j y hy)
    · have := hD1.1 _ _ x y hx hy hxy
      omega
  · rw [List.getElem?_append] at hx
    split at hx
    · exact hD.2 i x (hold i x hx)
    · rcases hD1.2 _ x hx with h | h
      · rw [h]; exact hAa
      · exact hA _ h
/-- a constructor called on the last cell -/
def CI (own : String) (idx : Nat) (y : MethodName) (bytes : ByteArray) (maxL : Nat) (n : Nat) : Prop := (Cond.methodLink own idx y ∈ gw_tbl ∨ ∃ host, Cond.methodLinkNest own idx y host ∈ mw_tbl) ∧ Cond.instanceMethod y ∈ gw_tbl ∧ Cond.initialized y.cls ∈ gw_tbl ∧ Cond.code y bytes maxL none ∈ gw_tbl ∧ y.name = "<init>" ∧ y.cls ≠ "java/lang/invoke/MethodHandle" ∧ y.cls ≠ "java/lang/invoke/VarHandle" ∧ (parseMethodDescriptor y.desc).map (fun d => d.parameters.length) = some n
theorem an_callI (C : Cn p s m args meth c cc nL own D cy z sA sV v A) {idx n0 fr lo mc ms maxL a ci : Nat} {y : MethodName} {bytes : ByteArray} {As As0 rest fs : List Value} {post : va_W → Prop} (hd : decode cc pc = .ok (.invokespecial idx, 3)) (hc : CI own idx y bytes maxL n0) (hM : Ck l y bytes maxL fr lo mc ms D cy z sA sV v a As ci fs post) (hs : st = As0 ++ (.ref a :: rest)) (hA : As.reverse = As0) (hn0 : As.length = n0) (hR : fr + 1 ≤ R.frames ∧ 8 + (maxL + 11) + lo ≤ R.locals) (hw : (rest.map fun v => v.category).sum ≤ 8) (hk : k + mc ≤ R.cells ∧ n + ms ≤ R.slots) (K : ∀ w1 : va_W, post w1 → AN p l e R s m args below meth c D A nL Q (k + mc) (n + ms) (ws ++ w1) lv (pc + 3) rest) : AN p l e R s m args below meth c D A nL Q k n (ws ++ [(a, .inr (ci, fs))]) lv pc st := fun H locs ls hP hD hS hv => by
  subst hA
  subst hs
  obtain ⟨c1, c2, c3, c4, c5, c6, c7, c8⟩ := hc
  have ht := C.2.2.2.2.1
  have hsub : ∀ x, AK a H.size x → A x := fun x hx => hx.elim (fun h => by rw [h]; exact hD.2 ws.length (a, .inr (ci, fs)) (by simp)) (fun h => C.2.2.2.2.2.2.1 x (Nat.le_trans hS.1 h))
  have hpre : PreS s H (PK D cy z sA sV v H.size a As ci fs) (.ref a :: As) := ⟨PK_blind, fun U hU hW => ⟨rfl, by rw [hU], by rw [hU]; exact (fun i x hx => by
    have hz : i < 1 := (List.getElem?_eq_some_iff.mp hx).1
    rw [show i = 0 by omega] at hx
    cases hx
    exact hP ws.length _ (by simp)), C.2.2.2.2.2.1.go hS hU hW hsub⟩⟩
  have hrun : va_Run p l e R s m args below meth c H locs k n mc ms (F0 m pc ls (As.reverse ++ (.ref a :: rest))) rest (QK D a H.size post (Value.ref a :: As).toArray) (AK a H.size) := by
    rcases c1 with c1 | ⟨host, c1⟩
    · exact va_runI (Ts := gw_tbl) (cc := cc) (nL := nL) (own := own) (n := n0) (bytes := bytes) (maxL := maxL) (rm := { frames := fr, cells := mc, slots := ms, locals := lo }) (As := As) (rest := rest) (g := F0 m pc ls (As.reverse ++ (.ref a :: rest))) ⟨C.1, C.2.1, C.2.2.1, C.2.2.2.1, ht⟩ (hM H.size) ⟨callB_of n0 ht (gw_code c4) rfl rfl rfl (ht _ c3) (ht _ c1) ⟨c6, c7, c8⟩ hR, c5, ht _ c2⟩ hpre rfl hn0 hv.1 rfl (lv_room hw) hd hk
    · exact va_runIN (Ts := gw_tbl) (cc := cc) (nL := nL) (own := own) (host := host) (n := n0) (bytes := bytes) (maxL := maxL) (rm := { frames := fr, cells := mc, slots := ms, locals := lo }) (As := As) (rest := rest) (g := F0 m pc ls (As.reverse ++ (.ref a :: rest))) ⟨C.1, C.2.1, C.2.2.1, C.2.2.2.1, ht⟩ (hM H.size) ⟨va_cnB n0 ht (gw_code c4) rfl rfl rfl (C.2.2.2.2.2.1.2.2.2.2 _ c1) (ht _ c3) ⟨c6, c7, c8⟩ hR, c5, ht _ c2⟩ hpre rfl hn0 hv.1 rfl (lv_room hw) hd hk
  intro T hT X
  obtain ⟨v0, st₀, t, T', L, h0, X', hL, e1, e2, ⟨⟨hv1, w1, hp, hP1, hD1⟩, hz, hkk⟩, stp⟩ := hrun T hT X
  cases hv1
  rw [h0] at hz hkk
  obtain ⟨hP2, hD2⟩ := va_last1 hP hD (fun x hx => C.2.2.2.2.2.2.1 x (Nat.le_trans hS.1 hx)) hkk hP1 hD1
  obtain ⟨t2, a1, b1⟩ := K w1 hp t.heap (locs ++ L) ls hP2 hD2 ⟨Nat.le_trans hS.1 hz, fun x h1 h2 => by rw [hkk x (Nat.lt_of_lt_of_le h1 hS.1) (fun y => h2 (hsub x y))]; exact hS.2.1 x h1 h2, fun x hx => by
      rcases List.mem_append.mp hx with h | h
      · exact hS.2.2 x h
      · exact hsub _ (hL x h)⟩ hv T' e1 X'
  exact ⟨t2, stp t2 a1, b1⟩
/-- the cells in another order -/
theorem an_perm {ws' : va_W} (is : List Nat) (hs : is.map (fun i => ws[i]?) = ws'.map some) (hn : va_nd is = true) (K : AN p l e R s m args below meth c D A nL Q k n ws' lv pc st) : AN p l e R s m args below meth c D A nL Q k n ws lv pc st := fun H locs ls hP hD hS hv => K H locs ls (fun i x hx => by
    have h1 : (is.map (fun i => ws[i]?))[i]? = some (some x) := by rw [hs, List.getElem?_map, hx]; rfl
    rw [List.getElem?_map] at h1
    cases hi : is[i]? with
    | none => rw [hi] at h1; cases h1
    | some j => rw [hi] at h1; exact hP j x (Option.some.inj h1)) (hD.sub is hn hs) hS hv
theorem an_eq {ws' : va_W} (h : ws = ws') (K : AN p l e R s m args below meth c D A nL Q k n ws' lv pc st) : AN p l e R s m args below meth c D A nL Q k n ws lv pc st := h ▸ K
/-- a call of a method that is proved over N cells -/
theorem an_callV (C : Cn p s m args meth c cc nL own D cy z sA sV v A) {N : Nat} {q : Nat → Nat} {f : wS} {C0 : String} {idx n0 fr lo maxL i ci : Nat} {y : MethodName} {bytes : ByteArray} {ret : Option FieldType} {As As0 rest fs : List Value} {q0 : vw_C} {post : Option Value → wS → Prop} (hI : wI N q) (hd : decode cc pc = .ok (.invokevirtual idx, 3)) (hc : CV own idx C0 y bytes maxL ret n0) (hM : Ct l y bytes maxL ret fr lo D cy z N q (.ref (q i) :: As) f post) (hs : st = As0 ++ (.ref (q i) :: rest)) (hA : As.reverse = As0) (hn0 : As.length = n0) (hR : fr + 1 ≤ R.frames ∧ 8 + (maxL + 11) + lo ≤ R.locals) (hw : (rest.map fun v => v.category).sum ≤ 8) (hk : k ≤ R.cells ∧ n ≤ R.slots) (hi : i < N) (hf : f i = .inr (ci, fs)) (hq : vwCl[ci]? = some q0) (hq1 : q0.1 = C0) (K : ∀ (r : Option Value) (g : wS), post r g → AN p l e R s m args below meth c D A nL Q k n (wl N q g) lv (pc + 3) (r.toList ++ rest)) : AN p l e R s m args below meth c D A nL Q k n (wl N q f) lv pc st := fun H locs ls hP hD hS hv => by
  subst hA
  subst hs
  subst hq1
  obtain ⟨⟨c1, c2, c3, c4, c5⟩, c6, c7, c8, c9⟩ := hc
  have he : (wl N q f)[i]? = some (q i, .inr (ci, fs)) := by rw [wl_get hi, hf]
  have ht := C.2.2.2.2.1
  have hini : (Cond.initialized y.cls).before args s = true := by rw [c6]; exact ht _ c4
  have hsub : ∀ x, wA N q H.size x → A x := fun x hx => hx.elim (fun ⟨j, hj, e⟩ => by rw [← e]; exact hD.2 j (q j, f j) (wl_get hj)) (fun h => C.2.2.2.2.2.2.1 x (Nat.le_trans hS.1 h))
  have hrun := va_runV (R := R) (l := l) (below := below) (locs := locs) (cells := k) (slots := n) (meth := meth) (e := e) (Ts := gw_tbl) (cc := cc) (nL := nL) (own := own) (n := n0) (bytes := bytes) (maxL := maxL) (ret := ret) (rm := { frames := fr, cells := 0, slots := 0, locals := lo }) (As := As) (rest := rest) (g := F0 m pc ls (As.reverse ++ (.ref (q i) :: rest))) ⟨C.1, C.2.1, C.2.2.1, C.2.2.2.1, ht⟩ (hM H.size) ⟨callB_of n0 ht (gw_code c5) rfl rfl rfl hini (ht _ c1) ⟨c7, c8, c9⟩ hR, ht _ c2, ht _ c3⟩ ⟨Pg_blind, va_recv C.2.2.2.2.2.1.1.1 hP hq he, fun U hU hW => ⟨rfl, by rw [hU], by rw [hU]; exact hP, C.2.2.2.2.2.1.1.goB hS hU hW hsub⟩⟩ rfl hn0 hv.1 rfl (lv_room hw) hd hk
  intro T hT X
  obtain ⟨v0, st₀, t, T', L, h0, X', hL, e1, e2, ⟨⟨r, g, hv1, hp, hb⟩, hz, hkk⟩, stp⟩ := hrun T hT X
  cases hv1
  rw [h0] at hz hkk
  have hD2 : va_D A (wl N q g) := ⟨fun a b x y hx hy hxy => by
    obtain ⟨ha, rfl⟩ := wl_of hx
    obtain ⟨hb2, rfl⟩ := wl_of hy
    exact hI a b ha hb2 hxy, fun a x hx => by
    obtain ⟨ha, rfl⟩ := wl_of hx
    exact hD.2 a (q a, f a) (wl_get ha)⟩
  obtain ⟨t2, a1, b1⟩ := K v0 g hp t.heap (locs ++ L) ls hb hD2 ⟨Nat.le_trans hS.1 hz, fun x h1 h2 => by rw [hkk x (Nat.lt_of_lt_of_le h1 hS.1) (fun y => h2 (hsub x y))]; exact hS.2.1 x h1 h2, fun x hx => by
      rcases List.mem_append.mp hx with h | h
      · exact hS.2.2 x h
      · exact hsub _ (hL x h)⟩ hv T' e1 X'
  exact ⟨t2, stp t2 a1, b1⟩
/-- a call of a method of the String -/
theorem an_callS (C : Cn p s m args meth c cc nL own D cy z sA sV v A) {idx n0 fr lo maxL : Nat} {y : MethodName} {bytes : ByteArray} {ret : Option FieldType} {As As0 rest : List Value} {r : Option Value} (hd : decode cc pc = .ok (.invokevirtual idx, 3)) (hc : CV own idx RJ0 y bytes maxL ret n0) (hM : Cs l y bytes maxL ret fr lo D cy z (fun _ => 0) sA sV v (.ref sA :: As) r) (hs : st = As0 ++ (.ref sA :: rest)) (hA : As.reverse = As0) (hn0 : As.length = n0) (hR : fr + 1 ≤ R.frames ∧ 8 + (maxL + 11) + lo ≤ R.locals) (hw : (rest.map fun v => v.category).sum ≤ 8) (hk : k ≤ R.cells ∧ n ≤ R.slots) (K : AN p l e R s m args below meth c D A nL Q k n ws lv (pc + 3) (r.toList ++ rest)) : AN p l e R s m args below meth c D A nL Q k n ws lv pc st := fun H locs ls hP hD hS hv => by
  subst hA
  subst hs
  obtain ⟨⟨c1, c2, c3, c4, c5⟩, c6, c7, c8, c9⟩ := hc
  have ht := C.2.2.2.2.1
  have hini : (Cond.initialized y.cls).before args s = true := by rw [c6]; exact ht _ c4
  have hsub : ∀ x, wA 0 (fun _ => 0) H.size x → A x := fun x hx => hx.elim (fun ⟨j, hj, _⟩ => absurd hj (Nat.not_lt_zero j)) (fun h => C.2.2.2.2.2.2.1 x (Nat.le_trans hS.1 h))
  have hrun := va_runV (R := R) (l := l) (below := below) (locs := locs) (cells := k) (slots := n) (meth := meth) (e := e) (Ts := gw_tbl) (cc := cc) (nL := nL) (own := own) (n := n0) (bytes := bytes) (maxL := maxL) (ret := ret) (rm := { frames := fr, cells := 0, slots := 0, locals := lo }) (As := As) (rest := rest) (g := F0 m pc ls (As.reverse ++ (.ref sA :: rest))) ⟨C.1, C.2.1, C.2.2.1, C.2.2.2.1, ht⟩ (hM H.size) ⟨callB_of n0 ht (gw_code c5) rfl rfl rfl hini (ht _ c1) ⟨c7, c8, c9⟩ hR, ht _ c2, ht _ c3⟩ ⟨PS_blind, vk_recv C.2.2.2.2.2.1.2.1.1 (i := 0) (by decide) hS, fun U hU hW => ⟨rfl, by rw [hU], C.2.2.2.2.2.1.1.goB hS hU hW hsub, C.2.2.2.2.2.1.2.1.go hS hU hW hsub⟩⟩ rfl hn0 hv.1 rfl (lv_room hw) hd hk
  intro T hT X
  obtain ⟨v0, st₀, t, T', L, h0, X', hL, e1, e2, ⟨hv1, hz, hkk⟩, stp⟩ := hrun T hT X
  cases hv1
  rw [h0] at hz hkk
  have hkp : ∀ (i : Nat) (x : Nat × va_E), ws[i]? = some x → t.heap[x.1]? = H[x.1]? := fun i x hx => hkk x.1 ((hP i x hx).lt) (fun hA => hA.elim (fun ⟨j, hj, _⟩ => absurd hj (Nat.not_lt_zero j)) (fun h => absurd ((hP i x hx).lt) (by omega)))
  obtain ⟨t2, a1, b1⟩ := K t.heap (locs ++ L) ls (hP.kept hkp) hD ⟨Nat.le_trans hS.1 hz, fun x h1 h2 => by rw [hkk x (Nat.lt_of_lt_of_le h1 hS.1) (fun y => h2 (hsub x y))]; exact hS.2.1 x h1 h2, fun x hx => by
      rcases List.mem_append.mp hx with h | h
      · exact hS.2.2 x h
      · exact hsub _ (hL x h)⟩ hv T' e1 X'
  exact ⟨t2, stp t2 a1, b1⟩
/-- the end of a constructor; its contract -/
theorem an_vret {h0 : Nat} {post : va_W → Prop} (C : Cn p s m args meth c cc nL own D cy z sA sV v (AK h0 s.heap.size)) (hr : meth.sig.returnType = none) (hd : decode cc pc = .ok (.return_, 1)) (hp : post ws) : AN p l e R s m args below meth c D (AK h0 s.heap.size) nL (MQ below (QK D h0 s.heap.size post) args s k n (AK h0 s.heap.size)) k n ws lv pc [] :=
  fun H locs ls hP hD hS hv => W.vret C.1 C.2.1 hr (fun t ht hW => ⟨⟨rfl, ws, hp, by rw [ht]; exact hP, hD⟩, hS.F ht⟩) hS.2.2 hd C.2.2.2.2.2.2.2.1
theorem an_lv {lv' : List (Nat × Value)} (h : ∀ x ∈ lv', x ∈ lv) (K : AN p l e R s m args below meth c D A nL Q k n ws lv' pc st) : AN p l e R s m args below meth c D A nL Q k n ws lv pc st := fun H locs ls hP hD hS hv => K H locs ls hP hD hS (lv_mono hv h)
theorem Ck.of {y : MethodName} {bytes : ByteArray} {maxL fr lo mc ms h0 ci : Nat} {av fs0 : List Value} {post : va_W → Prop} (hy : plainName y.cls = true) (hcls : y.cls = own) (hyn : y.name = "<init>") (hlen : (lg_sl (.ref h0 :: av)).length ≤ maxL)
    (body : ∀ (p : Program) (e : Env) (s : State) (m : MethodId) (args : Array Value) (below : List Frame) (meth : Method) (c : Code), Cn p s m args meth c bytes maxL own D cy z sA sV v (AK h0 s.heap.size) → meth.sig.returnType = none → AN p l e { frames := fr, cells := mc, slots := ms, locals := lo } s m args below meth c D (AK h0 s.heap.size) maxL (MQ below (QK D h0 s.heap.size post) args s mc ms (AK h0 s.heap.size)) 0 0 [(h0, .inr (ci, fs0))] (lv_args 0 (.ref h0 :: av)) 0 []) : Ck l y bytes maxL fr lo mc ms D cy z sA sV v h0 av ci fs0 post := by
  intro sz
  refine Met.ofW (cc := bytes) (maxL := maxL) (ret := none) hy rfl ?_
  intro p e s m args below meth c s₁ B hml hv
  obtain ⟨rfl, hsz, hP, hE⟩ := hv
  subst hsz
  have hts := atoms_spec (ws := .code y bytes maxL none :: gw_tbl) B.pre
  have hown : s.vm.findClass own = some m.cls := by rw [← hcls]; exact findClass_of_methodNamed B.named
  have hin : meth.name = "<init>" := (name_of_methodNamed B.named B.method).1.trans hyn
  have hl := lv_entry (.ref h0 :: av) (n := maxL) hlen
  rw [lg_entry_eq]
  refine body p e s m _ below meth c ⟨B.exec, B.bytes, hml, hown, fun w hw => hts w (List.mem_cons_of_mem _ hw), hE, fun a ha => Or.inr ha, B.notSynchronized, fun _ => hin⟩ B.returns s.heap [] _ hP ⟨fun i j x y hx hy _ => ?_, fun i x hx => ?_⟩ va_S.rf hl
  · have h1 : i < 1 := (List.getElem?_eq_some_iff.mp hx).1
    have h2 : j < 1 := (List.getElem?_eq_some_iff.mp hy).1
    omega
  · have h1 : i < 1 := (List.getElem?_eq_some_iff.mp hx).1
    rw [show i = 0 by omega] at hx
    cases hx
    exact Or.inl rfl
end INIT
