-- the world of the reference: its object and its eight rows; its numbers are told as natural numbers
def mdC (cy : Nat → ClassId) (q : Nat → Nat) (len span wires chg rsp rwi val ends : Nat) (text : Nat → Nat) (h was rd eyes fw bars ways : Nat → Int32) : wS := fun k => match k with
  | 0 => .inr (9, [.int (nI len), .ref (q 1), .int (nI span), .int (nI wires), .ref (q 2), .ref (q 3), .int (nI chg), .int (nI rsp), .int (nI rwi), .ref (q 4), .int (nI val), .int (nI ends), .ref (q 5), .ref (q 6), .ref (q 7), .ref (q 8)])
  | 1 => .inl (cy 1, 200, .inl (fun j => nI (text j)))
  | 2 => .inl (cy 1, 45, .inl h)
  | 3 => .inl (cy 1, 270, .inl was)
  | 4 => .inl (cy 1, 45, .inl rd)
  | 5 => .inl (cy 1, 10, .inl eyes)
  | 6 => .inl (cy 1, 25, .inl fw)
  | 7 => .inl (cy 1, 8, .inl bars)
  | 8 => .inl (cy 1, 256, .inl ways)
  | _ => .inr (0, [])
section MDC
variable {cy : Nat → ClassId} {q : Nat → Nat} {len span wires chg rsp rwi val ends v : Nat} {text gt : Nat → Nat} {h was rd eyes fw bars ways g : Nat → Int32}
theorem md_p_len : va_up (mdC cy q len span wires chg rsp rwi val ends text h was rd eyes fw bars ways) 0 (.inr (9, List.set [.int (nI len), .ref (q 1), .int (nI span), .int (nI wires), .ref (q 2), .ref (q 3), .int (nI chg), .int (nI rsp), .int (nI rwi), .ref (q 4), .int (nI val), .int (nI ends), .ref (q 5), .ref (q 6), .ref (q 7), .ref (q 8)] 0 (.int (nI v)))) = mdC cy q v span wires chg rsp rwi val ends text h was rd eyes fw bars ways := funext fun k => by
  match k with
  | 0 => rfl
  | 1 => rfl
  | 2 => rfl
  | 3 => rfl
  | 4 => rfl
  | 5 => rfl
  | 6 => rfl
  | 7 => rfl
  | 8 => rfl
  | k + 9 => simp [va_up, mdC]
theorem md_p_span : va_up (mdC cy q len span wires chg rsp rwi val ends text h was rd eyes fw bars ways) 0 (.inr (9, List.set [.int (nI len), .ref (q 1), .int (nI span), .int (nI wires), .ref (q 2), .ref (q 3), .int (nI chg), .int (nI rsp), .int (nI rwi), .ref (q 4), .int (nI val), .int (nI ends), .ref (q 5), .ref (q 6), .ref (q 7), .ref (q 8)] 2 (.int (nI v)))) = mdC cy q len v wires chg rsp rwi val ends text h was rd eyes fw bars ways := funext fun k => by
  match k with
  | 0 => rfl
  | 1 => rfl
  | 2 => rfl
  | 3 => rfl
  | 4 => rfl
  | 5 => rfl
  | 6 => rfl
  | 7 => rfl
  | 8 => rfl
  | k + 9 => simp [va_up, mdC]
theorem md_p_wires : va_up (mdC cy q len span wires chg rsp rwi val ends text h was rd eyes fw bars ways) 0 (.inr (9, List.set [.int (nI len), .ref (q 1), .int (nI span), .int (nI wires), .ref (q 2), .ref (q 3), .int (nI chg), .int (nI rsp), .int (nI rwi), .ref (q 4), .int (nI val), .int (nI ends), .ref (q 5), .ref (q 6), .ref (q 7), .ref (q 8)] 3 (.int (nI v)))) = mdC cy q len span v chg rsp rwi val ends text h was rd eyes fw bars ways := funext fun k => by
  match k with
  | 0 => rfl
  | 1 => rfl
  | 2 => rfl
  | 3 => rfl
  | 4 => rfl
  | 5 => rfl
  | 6 => rfl
  | 7 => rfl
  | 8 => rfl
  | k + 9 => simp [va_up, mdC]
theorem md_p_chg : va_up (mdC cy q len span wires chg rsp rwi val ends text h was rd eyes fw bars ways) 0 (.inr (9, List.set [.int (nI len), .ref (q 1), .int (nI span), .int (nI wires), .ref (q 2), .ref (q 3), .int (nI chg), .int (nI rsp), .int (nI rwi), .ref (q 4), .int (nI val), .int (nI ends), .ref (q 5), .ref (q 6), .ref (q 7), .ref (q 8)] 6 (.int (nI v)))) = mdC cy q len span wires v rsp rwi val ends text h was rd eyes fw bars ways := funext fun k => by
  match k with
  | 0 => rfl
  | 1 => rfl
  | 2 => rfl
  | 3 => rfl
  | 4 => rfl
  | 5 => rfl
  | 6 => rfl
  | 7 => rfl
  | 8 => rfl
  | k + 9 => simp [va_up, mdC]
theorem md_p_rsp : va_up (mdC cy q len span wires chg rsp rwi val ends text h was rd eyes fw bars ways) 0 (.inr (9, List.set [.int (nI len), .ref (q 1), .int (nI span), .int (nI wires), .ref (q 2), .ref (q 3), .int (nI chg), .int (nI rsp), .int (nI rwi), .ref (q 4), .int (nI val), .int (nI ends), .ref (q 5), .ref (q 6), .ref (q 7), .ref (q 8)] 7 (.int (nI v)))) = mdC cy q len span wires chg v rwi val ends text h was rd eyes fw bars ways := funext fun k => by
  match k with
  | 0 => rfl
  | 1 => rfl
  | 2 => rfl
  | 3 => rfl
  | 4 => rfl
  | 5 => rfl
  | 6 => rfl
  | 7 => rfl
  | 8 => rfl
  | k + 9 => simp [va_up, mdC]
theorem md_p_rwi : va_up (mdC cy q len span wires chg rsp rwi val ends text h was rd eyes fw bars ways) 0 (.inr (9, List.set [.int (nI len), .ref (q 1), .int (nI span), .int (nI wires), .ref (q 2), .ref (q 3), .int (nI chg), .int (nI rsp), .int (nI rwi), .ref (q 4), .int (nI val), .int (nI ends), .ref (q 5), .ref (q 6), .ref (q 7), .ref (q 8)] 8 (.int (nI v)))) = mdC cy q len span wires chg rsp v val ends text h was rd eyes fw bars ways := funext fun k => by
  match k with
  | 0 => rfl
  | 1 => rfl
  | 2 => rfl
  | 3 => rfl
  | 4 => rfl
  | 5 => rfl
  | 6 => rfl
  | 7 => rfl
  | 8 => rfl
  | k + 9 => simp [va_up, mdC]
theorem md_p_val : va_up (mdC cy q len span wires chg rsp rwi val ends text h was rd eyes fw bars ways) 0 (.inr (9, List.set [.int (nI len), .ref (q 1), .int (nI span), .int (nI wires), .ref (q 2), .ref (q 3), .int (nI chg), .int (nI rsp), .int (nI rwi), .ref (q 4), .int (nI val), .int (nI ends), .ref (q 5), .ref (q 6), .ref (q 7), .ref (q 8)] 10 (.int (nI v)))) = mdC cy q len span wires chg rsp rwi v ends text h was rd eyes fw bars ways := funext fun k => by
  match k with
  | 0 => rfl
  | 1 => rfl
  | 2 => rfl
  | 3 => rfl
  | 4 => rfl
  | 5 => rfl
  | 6 => rfl
  | 7 => rfl
  | 8 => rfl
  | k + 9 => simp [va_up, mdC]
theorem md_p_ends : va_up (mdC cy q len span wires chg rsp rwi val ends text h was rd eyes fw bars ways) 0 (.inr (9, List.set [.int (nI len), .ref (q 1), .int (nI span), .int (nI wires), .ref (q 2), .ref (q 3), .int (nI chg), .int (nI rsp), .int (nI rwi), .ref (q 4), .int (nI val), .int (nI ends), .ref (q 5), .ref (q 6), .ref (q 7), .ref (q 8)] 11 (.int (nI v)))) = mdC cy q len span wires chg rsp rwi val v text h was rd eyes fw bars ways := funext fun k => by
  match k with
  | 0 => rfl
  | 1 => rfl
  | 2 => rfl
  | 3 => rfl
  | 4 => rfl
  | 5 => rfl
  | 6 => rfl
  | 7 => rfl
  | 8 => rfl
  | k + 9 => simp [va_up, mdC]
theorem md_a_text {n c : Nat} : va_up (mdC cy q len span wires chg rsp rwi val ends text h was rd eyes fw bars ways) 1 (.inl (cy 1, 200, .inl (upd (fun j => nI (text j)) n (nI c)))) = mdC cy q len span wires chg rsp rwi val ends (va_up text n c) h was rd eyes fw bars ways := by
  have e : upd (fun j => nI (text j)) n (nI c) = fun j => nI (va_up text n c j) := by funext j; unfold upd va_up; split <;> rfl
  rw [e]
  exact funext fun k => by
    match k with
    | 0 => rfl
    | 1 => rfl
    | 2 => rfl
    | 3 => rfl
    | 4 => rfl
    | 5 => rfl
    | 6 => rfl
    | 7 => rfl
    | 8 => rfl
    | k + 9 => simp [va_up, mdC]
theorem md_a_h : va_up (mdC cy q len span wires chg rsp rwi val ends text h was rd eyes fw bars ways) 2 (.inl (cy 1, 45, .inl g)) = mdC cy q len span wires chg rsp rwi val ends text g was rd eyes fw bars ways := funext fun k => by
  match k with
  | 0 => rfl
  | 1 => rfl
  | 2 => rfl
  | 3 => rfl
  | 4 => rfl
  | 5 => rfl
  | 6 => rfl
  | 7 => rfl
  | 8 => rfl
  | k + 9 => simp [va_up, mdC]
theorem md_a_was : va_up (mdC cy q len span wires chg rsp rwi val ends text h was rd eyes fw bars ways) 3 (.inl (cy 1, 270, .inl g)) = mdC cy q len span wires chg rsp rwi val ends text h g rd eyes fw bars ways := funext fun k => by
  match k with
  | 0 => rfl
  | 1 => rfl
  | 2 => rfl
  | 3 => rfl
  | 4 => rfl
  | 5 => rfl
  | 6 => rfl
  | 7 => rfl
  | 8 => rfl
  | k + 9 => simp [va_up, mdC]
theorem md_a_rd : va_up (mdC cy q len span wires chg rsp rwi val ends text h was rd eyes fw bars ways) 4 (.inl (cy 1, 45, .inl g)) = mdC cy q len span wires chg rsp rwi val ends text h was g eyes fw bars ways := funext fun k => by
  match k with
  | 0 => rfl
  | 1 => rfl
  | 2 => rfl
  | 3 => rfl
  | 4 => rfl
  | 5 => rfl
  | 6 => rfl
  | 7 => rfl
  | 8 => rfl
  | k + 9 => simp [va_up, mdC]
theorem md_a_eyes : va_up (mdC cy q len span wires chg rsp rwi val ends text h was rd eyes fw bars ways) 5 (.inl (cy 1, 10, .inl g)) = mdC cy q len span wires chg rsp rwi val ends text h was rd g fw bars ways := funext fun k => by
  match k with
  | 0 => rfl
  | 1 => rfl
  | 2 => rfl
  | 3 => rfl
  | 4 => rfl
  | 5 => rfl
  | 6 => rfl
  | 7 => rfl
  | 8 => rfl
  | k + 9 => simp [va_up, mdC]
theorem md_a_fw : va_up (mdC cy q len span wires chg rsp rwi val ends text h was rd eyes fw bars ways) 6 (.inl (cy 1, 25, .inl g)) = mdC cy q len span wires chg rsp rwi val ends text h was rd eyes g bars ways := funext fun k => by
  match k with
  | 0 => rfl
  | 1 => rfl
  | 2 => rfl
  | 3 => rfl
  | 4 => rfl
  | 5 => rfl
  | 6 => rfl
  | 7 => rfl
  | 8 => rfl
  | k + 9 => simp [va_up, mdC]
theorem md_a_bars : va_up (mdC cy q len span wires chg rsp rwi val ends text h was rd eyes fw bars ways) 7 (.inl (cy 1, 8, .inl g)) = mdC cy q len span wires chg rsp rwi val ends text h was rd eyes fw g ways := funext fun k => by
  match k with
  | 0 => rfl
  | 1 => rfl
  | 2 => rfl
  | 3 => rfl
  | 4 => rfl
  | 5 => rfl
  | 6 => rfl
  | 7 => rfl
  | 8 => rfl
  | k + 9 => simp [va_up, mdC]
theorem md_a_ways : va_up (mdC cy q len span wires chg rsp rwi val ends text h was rd eyes fw bars ways) 8 (.inl (cy 1, 256, .inl g)) = mdC cy q len span wires chg rsp rwi val ends text h was rd eyes fw bars g := funext fun k => by
  match k with
  | 0 => rfl
  | 1 => rfl
  | 2 => rfl
  | 3 => rfl
  | 4 => rfl
  | 5 => rfl
  | 6 => rfl
  | 7 => rfl
  | 8 => rfl
  | k + 9 => simp [va_up, mdC]
end MDC
