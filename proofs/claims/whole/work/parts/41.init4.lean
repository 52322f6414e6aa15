-- BondedWires' constructor
def apL (i : Nat) : Nat → Nat := fun j => if j < i then fTn.getD j 0 else 0
theorem apL_s {i : Nat} : va_up (apL i) i (fTn.getD i 0) = apL (i + 1) := by
  funext j
  unfold va_up apL
  by_cases h : j = i
  · rw [if_pos h, if_pos (by omega), h]
  · rw [if_neg h]
    by_cases h2 : j < i
    · rw [if_pos h2, if_pos (by omega)]
    · rw [if_neg h2, if_neg (by omega)]
theorem apL_b {i j : Nat} : apL i j ≤ 1000 := by
  unfold apL
  split
  · by_cases h : j < 80
    · have := (fT_n j h).2.1; omega
    · have : fTn.getD j 0 = 0 := by
        unfold fTn
        rw [List.getD_eq_getElem?_getD, List.getElem?_eq_none (by simp; omega)]
        rfl
      omega
  · omega
set_option maxRecDepth 100000 in
theorem r0_a : (rdT 80 (apL 80)).1 = -4 ∧ (rdT 80 (apL 80)).2.1 = 20 ∧ (rdT 80 (apL 80)).2.2.1 = 5 := by decide +kernel
set_option maxRecDepth 100000 in
theorem r0_h : ∀ j, j < 45 → (rdT 80 (apL 80)).2.2.2 j = h0R j := by decide +kernel
theorem r0_e : cpG (rdT 80 (apL 80)).2.2.2 h0R 45 = h0R := by
  funext j
  unfold cpG
  split
  · next h => exact r0_h j h
  · rfl
theorem h0_ok : hOK h0R 5 := by
  have h1 := (rdT_ok 80 (apL 80)).1
  rw [r0_a.2.2] at h1
  exact hOK_cg (by decide) (fun x hx => r0_h x (rel_lt (by decide) hx)) h1
theorem arrV_cg {cA : ClassId} {N : Nat} {f g : Nat → Value} (h : ∀ j, j < N → f j = g j) : arrV cA N f = arrV cA N g := by
  unfold arrV
  congr 1
  congr 1
  funext j
  exact h j.val j.isLt
section INI4
variable {p : Program} {l : Launch} {e : Env} {R : Room} {s : State} {m : MethodId} {args : Array Value} {below : List Frame} {meth : Method} {c : Code} {Q : State → Prop}
variable {nL : Nat} {D : va_G} {A : Nat → Prop} {k n : Nat} {ws : va_W} {lv : List (Nat × Value)} {pc : Nat} {st : List Value}
/-- a row of rows told by another function that agrees with it -/
theorem an_cell {ws' : va_W} {i a N : Nat} {cA : ClassId} {g g' : Nat → Option Nat} (he : ws[i]? = some (a, .inl (cA, N, .inr (.inr (.inr (.inr g)))))) (hg : ∀ j, j < N → g j = g' j) (hw : ws.set i (a, .inl (cA, N, .inr (.inr (.inr (.inr g'))))) = ws') (K : AN p l e R s m args below meth c D A nL Q k n ws' lv pc st) : AN p l e R s m args below meth c D A nL Q k n ws lv pc st := fun H locs ls hP hD hS hv => by
  subst hw
  refine K H locs ls (fun j x hx => ?_) (hD.set he) hS hv
  rw [List.getElem?_set] at hx
  split at hx
  · next e1 =>
    split at hx
    · cases hx
      have h1 : H[a]? = some (vp_cell cA (N, .inr (.inr (.inr (.inr g))))) := hP i _ he
      show H[a]? = some (vp_cell cA (N, .inr (.inr (.inr (.inr g')))))
      rw [h1, vp_cell_q, vp_cell_q, arrV_cg (g := fun j => va_rf (g' j)) (fun j hj => by rw [hg j hj])]
    · cases hx
  · exact hP j x hx
end INI4
theorem ci_X8_9 : CI RX8 9 yX6_init cX6_init 1 0 := ⟨Or.inr ⟨"BondedWires", mw_at 74 (by decide +kernel) rfl⟩, gw_at 75 (by decide +kernel) rfl, gw_at 48 (by decide +kernel) rfl, gw_at 76 (by decide +kernel) rfl, rfl, by decide +kernel, by decide +kernel, by decide +kernel⟩
theorem ci_X8_18 : CI RX8 18 yX1_init cX1_init 1 0 := ⟨Or.inr ⟨"BondedWires", mw_at 90 (by decide +kernel) rfl⟩, gw_at 91 (by decide +kernel) rfl, gw_at 49 (by decide +kernel) rfl, gw_at 92 (by decide +kernel) rfl, rfl, by decide +kernel, by decide +kernel, by decide +kernel⟩
theorem ci_X8_25 : CI RX8 25 yX0_init cX0_init 1 0 := ⟨Or.inr ⟨"BondedWires", mw_at 122 (by decide +kernel) rfl⟩, gw_at 123 (by decide +kernel) rfl, gw_at 50 (by decide +kernel) rfl, gw_at 124 (by decide +kernel) rfl, rfl, by decide +kernel, by decide +kernel, by decide +kernel⟩
theorem ci_X8_32 : CI RX8 32 yX3_init cX3_init 1 0 := ⟨Or.inr ⟨"BondedWires", mw_at 147 (by decide +kernel) rfl⟩, gw_at 148 (by decide +kernel) rfl, gw_at 51 (by decide +kernel) rfl, gw_at 149 (by decide +kernel) rfl, rfl, by decide +kernel, by decide +kernel, by decide +kernel⟩
theorem ci_X8_39 : CI RX8 39 yX7_init cX7_init 2 1 := ⟨Or.inl (gw_at 166 (by decide +kernel) rfl), gw_at 167 (by decide +kernel) rfl, gw_at 52 (by decide +kernel) rfl, gw_at 168 (by decide +kernel) rfl, rfl, by decide +kernel, by decide +kernel, by decide +kernel⟩
theorem ci_X8_48 : CI RX8 48 yX4_init cX4_init 3 2 := ⟨Or.inl (gw_at 192 (by decide +kernel) rfl), gw_at 193 (by decide +kernel) rfl, gw_at 53 (by decide +kernel) rfl, gw_at 194 (by decide +kernel) rfl, rfl, by decide +kernel, by decide +kernel, by decide +kernel⟩
theorem ci_X8_57 : CI RX8 57 yX2_init cX2_init 3 2 := ⟨Or.inl (gw_at 211 (by decide +kernel) rfl), gw_at 212 (by decide +kernel) rfl, gw_at 54 (by decide +kernel) rfl, gw_at 213 (by decide +kernel) rfl, rfl, by decide +kernel, by decide +kernel, by decide +kernel⟩
theorem ci_X8_64 : CI RX8 64 yX5_init cX5_init 2 1 := ⟨Or.inl (gw_at 242 (by decide +kernel) rfl), gw_at 243 (by decide +kernel) rfl, gw_at 55 (by decide +kernel) rfl, gw_at 244 (by decide +kernel) rfl, rfl, by decide +kernel, by decide +kernel, by decide +kernel⟩
theorem ff_X8_10 : FF RX8 10 8 0 (.object "BondedWires$Text") := ⟨TX8, 8, tyX8, rfl, by decide, uw_X8, rfl, gw_at 409 (by decide +kernel) rfl, tyX8_ok, nmX8, rfl, by decide +kernel⟩
theorem ff_X8_19 : FF RX8 19 8 1 (.object "BondedWires$Draft") := ⟨TX8, 8, tyX8, rfl, by decide, uw_X8, rfl, gw_at 410 (by decide +kernel) rfl, tyX8_ok, nmX8, rfl, by decide +kernel⟩
theorem ff_X8_26 : FF RX8 26 8 2 (.object "BondedWires$Bench") := ⟨TX8, 8, tyX8, rfl, by decide, uw_X8, rfl, gw_at 411 (by decide +kernel) rfl, tyX8_ok, nmX8, rfl, by decide +kernel⟩
theorem ff_X8_33 : FF RX8 33 8 3 (.object "BondedWires$Past") := ⟨TX8, 8, tyX8, rfl, by decide, uw_X8, rfl, gw_at 412 (by decide +kernel) rfl, tyX8_ok, nmX8, rfl, by decide +kernel⟩
theorem ff_X8_42 : FF RX8 42 8 4 (.object "BondedWires$View") := ⟨TX8, 8, tyX8, rfl, by decide, uw_X8, rfl, gw_at 413 (by decide +kernel) rfl, tyX8_ok, nmX8, rfl, by decide +kernel⟩
theorem ff_X8_51 : FF RX8 51 8 5 (.object "BondedWires$Sequence") := ⟨TX8, 8, tyX8, rfl, by decide, uw_X8, rfl, gw_at 414 (by decide +kernel) rfl, tyX8_ok, nmX8, rfl, by decide +kernel⟩
theorem ff_X8_58 : FF RX8 58 8 6 (.object "BondedWires$LoopSearch") := ⟨TX8, 8, tyX8, rfl, by decide, uw_X8, rfl, gw_at 415 (by decide +kernel) rfl, tyX8_ok, nmX8, rfl, by decide +kernel⟩
theorem ff_X8_65 : FF RX8 65 8 7 (.object "BondedWires$Sights") := ⟨TX8, 8, tyX8, rfl, by decide, uw_X8, rfl, gw_at 416 (by decide +kernel) rfl, tyX8_ok, nmX8, rfl, by decide +kernel⟩
set_option maxRecDepth 20000 in
theorem ck_X8_l {l : Launch} {D : va_G} {cy : Nat → ClassId} {z : Nat → Nat} {sA sV : Nat} {v : Value} {p : Program} {e : Env} {s : State} {m : MethodId} {args : Array Value} {below : List Frame} {meth : Method} {c : Code} {Q : State → Prop} {A : Nat → Prop} {k n : Nat} {R : Room} {q : Nat → Nat} (hv : v = .null ∨ ∃ a, v = .ref a) (C : Cn p s m args meth c cX8_init 2 RX8 D cy z sA sV v A) (hI : wI 49 q) (hR : 6 ≤ R.frames ∧ 138 ≤ R.locals ∧ k ≤ R.cells ∧ n ≤ R.slots) (K : AN p l e R s m args below meth c D A 2 Q k n (wl 49 q (bwC cy q 80 0 0 0 0 0 0 0 0 (nI 0) (nI 0) (nI 0) (nI 0) (apL 80) zI zI zI (fun _ => zI) (fun _ => zI) (fun _ => zI) zI zI zI zI zI (fun _ => 0) zI zI zI zI zI)) [(0, .ref (q 0)), (1, .int (nI 80))] 147 []) : ∀ (d i : Nat), 80 - i < d → i ≤ 80 → AN p l e R s m args below meth c D A 2 Q k n (wl 49 q (bwC cy q i 0 0 0 0 0 0 0 0 (nI 0) (nI 0) (nI 0) (nI 0) (apL i) zI zI zI (fun _ => zI) (fun _ => zI) (fun _ => zI) zI zI zI zI zI (fun _ => 0) zI zI zI zI zI)) [(0, .ref (q 0)), (1, .int (nI i))] 118 [] := by
  intro d
  induction d with
  | zero => intro i h; exact absurd h (Nat.not_lt_zero _)
  | succ d ih =>
    intro i hd hi
    refine an_iload_n C dX8_init_118 (i := 1) rfl rfl ?_
    refine an_ldcS C rfl dX8_init_119 ?_
    refine an_callS (As := []) (As0 := []) (rest := [.int (nI i)]) C dX8_init_121 cv_X8_71 cj_length rfl rfl rfl ⟨by omega, by omega⟩ (Nat.le_of_ble_eq_true rfl) ⟨hR.2.2.1, hR.2.2.2⟩ ?_
    refine an_icmp_ge (tgt := 147) C dX8_init_124 (by decide) (by omega) (by omega) (fun h => ?_) (fun h => ?_)
    · obtain rfl : i = 80 := by omega
      exact K
    · refine an_aload_n C dX8_init_127 (i := 0) rfl rfl ?_
      refine an_get (i := 0) C dX8_init_128 fl_X8_10 (wl_get (by decide)) rfl ?_
      refine an_ldcS C rfl dX8_init_131 ?_
      refine an_iload_n C dX8_init_133 (i := 1) rfl rfl ?_
      refine an_callS (As := [.int (nI i)]) (As0 := [.int (nI i)]) (rest := [.ref (q 1)]) C dX8_init_134 cv_X8_77 (cj_charAt hv h) rfl rfl rfl ⟨by omega, by omega⟩ (Nat.le_of_ble_eq_true rfl) ⟨hR.2.2.1, hR.2.2.2⟩ ?_
      have h9 := fT_n i h
      refine an_callV (i := 1) (As := [.int (nI (fTn.getD i 0))]) (As0 := [.int (nI (fTn.getD i 0))]) (rest := []) C hI dX8_init_137 cv_X8_81 (cb_append hI (by omega) (by omega)) rfl rfl rfl ⟨by omega, by omega⟩ (Nat.le_of_ble_eq_true rfl) ⟨hR.2.2.1, hR.2.2.2⟩ (by decide) rfl rfl rfl (fun r g hp => ?_)
      obtain ⟨rfl, rfl⟩ := hp
      rw [if_pos (by omega), apL_s]
      refine an_pop C dX8_init_140 rfl ?_
      refine an_iinc (lv' := [(0, .ref (q 0)), (1, .int (nI (i + 1)))]) C dX8_init_141 rfl ki_1 (Nat.le_of_ble_eq_true rfl) rfl ?_
      refine an_goto (tgt := 118) C dX8_init_144 (by decide) ?_
      exact ih (i + 1) (by omega) (by omega)
set_option maxRecDepth 20000 in
theorem ck_X8_e {l : Launch} {D : va_G} {cy : Nat → ClassId} {z : Nat → Nat} {sA sV : Nat} {v : Value} {p : Program} {e : Env} {s : State} {m : MethodId} {args : Array Value} {below : List Frame} {meth : Method} {c : Code} {Q : State → Prop} {A : Nat → Prop} {k n : Nat} {R : Room} {q : Nat → Nat} (hv : v = .null ∨ ∃ a, v = .ref a) (C : Cn p s m args meth c cX8_init 2 RX8 D cy z sA sV v A) (hI : wI 49 q) (hR : 6 ≤ R.frames ∧ 138 ≤ R.locals ∧ k ≤ R.cells ∧ n ≤ R.slots) (K : ∀ g : wS, bwR cy q 0 20 5 0 (fun _ => 0) h0R zI zI g → AN p l e R s m args below meth c D A 2 Q k n (wl 49 q g) [(0, .ref (q 0)), (1, .int (nI 80))] 159 []) : AN p l e R s m args below meth c D A 2 Q k n (wl 49 q (bwC cy q 80 0 0 0 0 0 0 0 0 (nI 0) (nI 0) (nI 0) (nI 0) (apL 80) zI zI zI (fun _ => zI) (fun _ => zI) (fun _ => zI) zI zI zI zI zI (fun _ => 0) zI zI zI zI zI)) [(0, .ref (q 0)), (1, .int (nI 80))] 147 [] := by
  refine an_aload_n C dX8_init_147 (i := 0) rfl rfl ?_
  refine an_callV (i := 0) (As := []) (As0 := []) (rest := []) C hI dX8_init_148 cv_X8_85 (cb_layText (h := h0R) hI (by decide) (fun j => apL_b)) rfl rfl rfl ⟨by omega, by omega⟩ (Nat.le_of_ble_eq_true rfl) ⟨hR.2.2.1, hR.2.2.2⟩ (by decide) rfl rfl rfl (fun r g hp => ?_)
  obtain ⟨x, rfl, s9, w9, d9, n9, l9, f9, hp⟩ := hp
  rw [r0_e, r0_a.1, r0_a.2.1, r0_a.2.2] at hp
  rcases hp with ⟨-, hp, -⟩ | ⟨rfl, -, a9, p9, g9, rfl, k1, k2, k3⟩
  · exact absurd hp (by decide)
  refine an_pop C dX8_init_151 rfl ?_
  refine an_aload_n C dX8_init_152 (i := 0) rfl rfl ?_
  refine an_get (i := 0) C dX8_init_153 fl_X8_10 (wl_get (by decide)) rfl ?_
  refine an_callV (i := 1) (As := []) (As0 := []) (rest := []) C hI dX8_init_156 cv_X8_89 (cb_tclear hI) rfl rfl rfl ⟨by omega, by omega⟩ (Nat.le_of_ble_eq_true rfl) ⟨hR.2.2.1, hR.2.2.2⟩ (by decide) rfl rfl rfl (fun r g hp => ?_)
  obtain ⟨rfl, rfl⟩ := hp
  refine K _ ?_
  refine ⟨_, _, _, _, _, _, _, _, _, _, _, _, _, _, _, _, _, _, _, _, _, _, _, _, _, _, _, rfl, ?_, ?_⟩
  · exact ⟨by decide, fun j => Nat.zero_le _, by decide, by decide, by decide, by decide, h0_ok, fun j hj => absurd hj (Nat.not_lt_zero j), fun e he => ⟨Or.inl rfl, fun h => absurd (show nI 0 = nI 1 from h) (by decide)⟩⟩
  · exact ⟨fun j => apL_b, fun j hj => absurd hj (Nat.not_lt_zero j), k1, k2, k3, Or.inl rfl, by decide, fun j hj => absurd hj (Nat.not_lt_zero j), fun e he => ⟨cpG_lt he, rfl, rfl, rfl, rfl⟩⟩
set_option maxRecDepth 20000 in
theorem ck_X8 {l : Launch} {D : va_G} {cy : Nat → ClassId} {z : Nat → Nat} {sA sV : Nat} {v : Value} {h0 : Nat} (hv : v = .null ∨ ∃ a, v = .ref a) : Ck l yX8_init cX8_init 2 6 138 48 1612 D cy z sA sV v h0 [] 8 [.null, .null, .null, .null, .null, .null, .null, .null] (fun w1 => ∃ (q : Nat → Nat) (g : wS), q 0 = h0 ∧ wI 49 q ∧ w1 = wl 49 q g ∧ bwR cy q 0 20 5 0 (fun _ => 0) h0R zI zI g) := by
  refine Ck.of (own := RX8) (by decide) rfl rfl (Nat.le_of_ble_eq_true rfl) ?_
  intro p e s m args below meth c C hr
  refine an_lv (lv' := [(0, .ref h0)]) (fun x hx => hx) ?_
  refine an_aload_n C dX8_init_0 (i := 0) rfl rfl ?_
  refine an_objInit C dX8_init_1 (gw_at 69 (by decide +kernel) rfl) ⟨Nat.le_of_ble_eq_true rfl, Nat.le_of_ble_eq_true rfl⟩ ?_
  refine an_aload_n C dX8_init_4 (i := 0) rfl rfl ?_
  refine an_new (ci := 6) (fs := [.null, .int (nI 0)]) C dX8_init_5 rfl ⟨gw_at 72 (by decide +kernel) rfl, gw_at 73 (by decide +kernel) rfl, gw_at 48 (by decide +kernel) rfl⟩ uw_X6 tyX6_ok (fun j hj => by (match j, hj with | 0, _ => rfl | 1, _ => rfl)) (Nat.le_of_ble_eq_true rfl) (Nat.le_of_ble_eq_true rfl) (fun t0 => ?_)
  refine an_dup C dX8_init_8 rfl ?_
  refine an_callI (ci := 6) (As := []) (As0 := []) (rest := [.ref t0, .ref h0]) C dX8_init_9 ci_X8_9 ck_X6 rfl rfl rfl ⟨Nat.le_of_ble_eq_true rfl, Nat.le_of_ble_eq_true rfl⟩ (Nat.le_of_ble_eq_true rfl) ⟨Nat.le_of_ble_eq_true rfl, Nat.le_of_ble_eq_true rfl⟩ (fun w1 hp => ?_)
  obtain ⟨t1, rfl⟩ := hp
  refine an_putF (i := 0) (ws' := [(h0, .inr (8, [.ref t0, .null, .null, .null, .null, .null, .null, .null])), (t0, .inr (6, [.ref t1, .int (nI 0)])), (t1, .inl (cy 0, 200, .inl (fun _ => nI 0)))]) C (by decide) dX8_init_12 ff_X8_10 rfl rfl rfl (Nat.le_of_ble_eq_true rfl) rfl ?_
  refine an_aload_n C dX8_init_15 (i := 0) rfl rfl ?_
  refine an_new (ci := 1) (fs := [.null, .null, .int (nI 0), .int (nI 0), .int (nI 0), .int (nI 0)]) C dX8_init_16 rfl ⟨gw_at 88 (by decide +kernel) rfl, gw_at 89 (by decide +kernel) rfl, gw_at 49 (by decide +kernel) rfl⟩ uw_X1 tyX1_ok (fun j hj => by (match j, hj with | 0, _ => rfl | 1, _ => rfl | 2, _ => rfl | 3, _ => rfl | 4, _ => rfl | 5, _ => rfl)) (Nat.le_of_ble_eq_true rfl) (Nat.le_of_ble_eq_true rfl) (fun d0 => ?_)
  refine an_dup C dX8_init_19 rfl ?_
  refine an_callI (ci := 1) (As := []) (As0 := []) (rest := [.ref d0, .ref h0]) C dX8_init_20 ci_X8_18 ck_X1 rfl rfl rfl ⟨Nat.le_of_ble_eq_true rfl, Nat.le_of_ble_eq_true rfl⟩ (Nat.le_of_ble_eq_true rfl) ⟨Nat.le_of_ble_eq_true rfl, Nat.le_of_ble_eq_true rfl⟩ (fun w1 hp => ?_)
  obtain ⟨d1, d2, rfl⟩ := hp
  refine an_putF (i := 0) (ws' := [(h0, .inr (8, [.ref t0, .ref d0, .null, .null, .null, .null, .null, .null])), (t0, .inr (6, [.ref t1, .int (nI 0)])), (t1, .inl (cy 0, 200, .inl (fun _ => nI 0))), (d0, .inr (1, [.ref d1, .ref d2, .int (nI 0), .int (nI 0), .int (nI 0), .int (nI 0)])), (d1, .inl (cy 1, 40, .inl (fun _ => nI 0))), (d2, .inl (cy 1, 3, .inl (fun _ => nI 0)))]) C (by decide) dX8_init_23 ff_X8_19 rfl rfl rfl (Nat.le_of_ble_eq_true rfl) rfl ?_
  refine an_aload_n C dX8_init_26 (i := 0) rfl rfl ?_
  refine an_new (ci := 0) (fs := [.null, .int (nI 0), .int (nI 0)]) C dX8_init_27 rfl ⟨gw_at 120 (by decide +kernel) rfl, gw_at 121 (by decide +kernel) rfl, gw_at 50 (by decide +kernel) rfl⟩ uw_X0 tyX0_ok (fun j hj => by (match j, hj with | 0, _ => rfl | 1, _ => rfl | 2, _ => rfl)) (Nat.le_of_ble_eq_true rfl) (Nat.le_of_ble_eq_true rfl) (fun b0 => ?_)
  refine an_dup C dX8_init_30 rfl ?_
  refine an_callI (ci := 0) (As := []) (As0 := []) (rest := [.ref b0, .ref h0]) C dX8_init_31 ci_X8_25 ck_X0 rfl rfl rfl ⟨Nat.le_of_ble_eq_true rfl, Nat.le_of_ble_eq_true rfl⟩ (Nat.le_of_ble_eq_true rfl) ⟨Nat.le_of_ble_eq_true rfl, Nat.le_of_ble_eq_true rfl⟩ (fun w1 hp => ?_)
  obtain ⟨b1, rfl⟩ := hp
  refine an_putF (i := 0) (ws' := [(h0, .inr (8, [.ref t0, .ref d0, .ref b0, .null, .null, .null, .null, .null])), (t0, .inr (6, [.ref t1, .int (nI 0)])), (t1, .inl (cy 0, 200, .inl (fun _ => nI 0))), (d0, .inr (1, [.ref d1, .ref d2, .int (nI 0), .int (nI 0), .int (nI 0), .int (nI 0)])), (d1, .inl (cy 1, 40, .inl (fun _ => nI 0))), (d2, .inl (cy 1, 3, .inl (fun _ => nI 0))), (b0, .inr (0, [.ref b1, .int (nI 0), .int (nI 0)])), (b1, .inl (cy 1, 45, .inl (fun _ => nI 0)))]) C (by decide) dX8_init_34 ff_X8_26 rfl rfl rfl (Nat.le_of_ble_eq_true rfl) rfl ?_
  refine an_aload_n C dX8_init_37 (i := 0) rfl rfl ?_
  refine an_new (ci := 3) (fs := [.null, .int (nI 0), .int (nI 0)]) C dX8_init_38 rfl ⟨gw_at 145 (by decide +kernel) rfl, gw_at 146 (by decide +kernel) rfl, gw_at 51 (by decide +kernel) rfl⟩ uw_X3 tyX3_ok (fun j hj => by (match j, hj with | 0, _ => rfl | 1, _ => rfl | 2, _ => rfl)) (Nat.le_of_ble_eq_true rfl) (Nat.le_of_ble_eq_true rfl) (fun p0 => ?_)
  refine an_dup C dX8_init_41 rfl ?_
  refine an_callI (ci := 3) (As := []) (As0 := []) (rest := [.ref p0, .ref h0]) C dX8_init_42 ci_X8_32 ck_X3 rfl rfl rfl ⟨Nat.le_of_ble_eq_true rfl, Nat.le_of_ble_eq_true rfl⟩ (Nat.le_of_ble_eq_true rfl) ⟨Nat.le_of_ble_eq_true rfl, Nat.le_of_ble_eq_true rfl⟩ (fun w1 hp => ?_)
  obtain ⟨p1, rfl⟩ := hp
  refine an_putF (i := 0) (ws' := [(h0, .inr (8, [.ref t0, .ref d0, .ref b0, .ref p0, .null, .null, .null, .null])), (t0, .inr (6, [.ref t1, .int (nI 0)])), (t1, .inl (cy 0, 200, .inl (fun _ => nI 0))), (d0, .inr (1, [.ref d1, .ref d2, .int (nI 0), .int (nI 0), .int (nI 0), .int (nI 0)])), (d1, .inl (cy 1, 40, .inl (fun _ => nI 0))), (d2, .inl (cy 1, 3, .inl (fun _ => nI 0))), (b0, .inr (0, [.ref b1, .int (nI 0), .int (nI 0)])), (b1, .inl (cy 1, 45, .inl (fun _ => nI 0))), (p0, .inr (3, [.ref p1, .int (nI 0), .int (nI 0)])), (p1, .inl (cy 4, 6, .inr (.inr (.inr (.inr (fun j => if j < 6 then some (p1 + 1 + j) else none)))))), (p1 + 1 + 0, .inl (cy 1, 45, .inl (fun _ => nI 0))), (p1 + 1 + 1, .inl (cy 1, 45, .inl (fun _ => nI 0))), (p1 + 1 + 2, .inl (cy 1, 45, .inl (fun _ => nI 0))), (p1 + 1 + 3, .inl (cy 1, 45, .inl (fun _ => nI 0))), (p1 + 1 + 4, .inl (cy 1, 45, .inl (fun _ => nI 0))), (p1 + 1 + 5, .inl (cy 1, 45, .inl (fun _ => nI 0)))]) C (by decide) dX8_init_45 ff_X8_33 rfl rfl rfl (Nat.le_of_ble_eq_true rfl) rfl ?_
  refine an_aload_n C dX8_init_48 (i := 0) rfl rfl ?_
  refine an_new (ci := 7) (fs := [.null, .null, .null, .null, .null, .int (nI 0)]) C dX8_init_49 rfl ⟨gw_at 164 (by decide +kernel) rfl, gw_at 165 (by decide +kernel) rfl, gw_at 52 (by decide +kernel) rfl⟩ uw_X7 tyX7_ok (fun j hj => by (match j, hj with | 0, _ => rfl | 1, _ => rfl | 2, _ => rfl | 3, _ => rfl | 4, _ => rfl | 5, _ => rfl)) (Nat.le_of_ble_eq_true rfl) (Nat.le_of_ble_eq_true rfl) (fun v0 => ?_)
  refine an_dup C dX8_init_52 rfl ?_
  refine an_aload_n C dX8_init_53 (i := 0) rfl rfl ?_
  refine an_get (i := 0) C dX8_init_54 fl_X8_26 rfl rfl ?_
  refine an_callI (ci := 7) (As := [.ref b0]) (As0 := [.ref b0]) (rest := [.ref v0, .ref h0]) C dX8_init_57 ci_X8_39 ck_X7 rfl rfl rfl ⟨Nat.le_of_ble_eq_true rfl, Nat.le_of_ble_eq_true rfl⟩ (Nat.le_of_ble_eq_true rfl) ⟨Nat.le_of_ble_eq_true rfl, Nat.le_of_ble_eq_true rfl⟩ (fun w1 hp => ?_)
  obtain ⟨v1, v2, v3, v4, rfl⟩ := hp
  refine an_putF (i := 0) (ws' := [(h0, .inr (8, [.ref t0, .ref d0, .ref b0, .ref p0, .ref v0, .null, .null, .null])), (t0, .inr (6, [.ref t1, .int (nI 0)])), (t1, .inl (cy 0, 200, .inl (fun _ => nI 0))), (d0, .inr (1, [.ref d1, .ref d2, .int (nI 0), .int (nI 0), .int (nI 0), .int (nI 0)])), (d1, .inl (cy 1, 40, .inl (fun _ => nI 0))), (d2, .inl (cy 1, 3, .inl (fun _ => nI 0))), (b0, .inr (0, [.ref b1, .int (nI 0), .int (nI 0)])), (b1, .inl (cy 1, 45, .inl (fun _ => nI 0))), (p0, .inr (3, [.ref p1, .int (nI 0), .int (nI 0)])), (p1, .inl (cy 4, 6, .inr (.inr (.inr (.inr (fun j => if j < 6 then some (p1 + 1 + j) else none)))))), (p1 + 1 + 0, .inl (cy 1, 45, .inl (fun _ => nI 0))), (p1 + 1 + 1, .inl (cy 1, 45, .inl (fun _ => nI 0))), (p1 + 1 + 2, .inl (cy 1, 45, .inl (fun _ => nI 0))), (p1 + 1 + 3, .inl (cy 1, 45, .inl (fun _ => nI 0))), (p1 + 1 + 4, .inl (cy 1, 45, .inl (fun _ => nI 0))), (p1 + 1 + 5, .inl (cy 1, 45, .inl (fun _ => nI 0))), (v0, .inr (7, [.ref b0, .ref v1, .ref v2, .ref v3, .ref v4, .int (nI 0)])), (v1, .inl (cy 4, 8, .inr (.inr (.inr (.inr (fun j => if j < 8 then some (v1 + 1 + j) else none)))))), (v1 + 1 + 0, .inl (cy 1, 41, .inl (fun _ => nI 0))), (v1 + 1 + 1, .inl (cy 1, 41, .inl (fun _ => nI 0))), (v1 + 1 + 2, .inl (cy 1, 41, .inl (fun _ => nI 0))), (v1 + 1 + 3, .inl (cy 1, 41, .inl (fun _ => nI 0))), (v1 + 1 + 4, .inl (cy 1, 41, .inl (fun _ => nI 0))), (v1 + 1 + 5, .inl (cy 1, 41, .inl (fun _ => nI 0))), (v1 + 1 + 6, .inl (cy 1, 41, .inl (fun _ => nI 0))), (v1 + 1 + 7, .inl (cy 1, 41, .inl (fun _ => nI 0))), (v2, .inl (cy 4, 8, .inr (.inr (.inr (.inr (fun j => if j < 8 then some (v2 + 1 + j) else none)))))), (v2 + 1 + 0, .inl (cy 1, 41, .inl (fun _ => nI 0))), (v2 + 1 + 1, .inl (cy 1, 41, .inl (fun _ => nI 0))), (v2 + 1 + 2, .inl (cy 1, 41, .inl (fun _ => nI 0))), (v2 + 1 + 3, .inl (cy 1, 41, .inl (fun _ => nI 0))), (v2 + 1 + 4, .inl (cy 1, 41, .inl (fun _ => nI 0))), (v2 + 1 + 5, .inl (cy 1, 41, .inl (fun _ => nI 0))), (v2 + 1 + 6, .inl (cy 1, 41, .inl (fun _ => nI 0))), (v2 + 1 + 7, .inl (cy 1, 41, .inl (fun _ => nI 0))), (v3, .inl (cy 1, 8, .inl (fun _ => nI 0))), (v4, .inl (cy 1, 8, .inl (fun _ => nI 0)))]) C (by decide) dX8_init_60 ff_X8_42 rfl rfl rfl (Nat.le_of_ble_eq_true rfl) rfl ?_
  refine an_aload_n C dX8_init_63 (i := 0) rfl rfl ?_
  refine an_new (ci := 4) (fs := [.null, .null, .null, .null]) C dX8_init_64 rfl ⟨gw_at 190 (by decide +kernel) rfl, gw_at 191 (by decide +kernel) rfl, gw_at 53 (by decide +kernel) rfl⟩ uw_X4 tyX4_ok (fun j hj => by (match j, hj with | 0, _ => rfl | 1, _ => rfl | 2, _ => rfl | 3, _ => rfl)) (Nat.le_of_ble_eq_true rfl) (Nat.le_of_ble_eq_true rfl) (fun s0 => ?_)
  refine an_dup C dX8_init_67 rfl ?_
  refine an_aload_n C dX8_init_68 (i := 0) rfl rfl ?_
  refine an_get (i := 0) C dX8_init_69 fl_X8_26 rfl rfl ?_
  refine an_aload_n C dX8_init_72 (i := 0) rfl rfl ?_
  refine an_get (i := 0) C dX8_init_73 fl_X8_42 rfl rfl ?_
  refine an_callI (ci := 4) (As := [.ref b0, .ref v0]) (As0 := [.ref v0, .ref b0]) (rest := [.ref s0, .ref h0]) C dX8_init_76 ci_X8_48 ck_X4 rfl rfl rfl ⟨Nat.le_of_ble_eq_true rfl, Nat.le_of_ble_eq_true rfl⟩ (Nat.le_of_ble_eq_true rfl) ⟨Nat.le_of_ble_eq_true rfl, Nat.le_of_ble_eq_true rfl⟩ (fun w1 hp => ?_)
  obtain ⟨s1, s2, rfl⟩ := hp
  refine an_putF (i := 0) (ws' := [(h0, .inr (8, [.ref t0, .ref d0, .ref b0, .ref p0, .ref v0, .ref s0, .null, .null])), (t0, .inr (6, [.ref t1, .int (nI 0)])), (t1, .inl (cy 0, 200, .inl (fun _ => nI 0))), (d0, .inr (1, [.ref d1, .ref d2, .int (nI 0), .int (nI 0), .int (nI 0), .int (nI 0)])), (d1, .inl (cy 1, 40, .inl (fun _ => nI 0))), (d2, .inl (cy 1, 3, .inl (fun _ => nI 0))), (b0, .inr (0, [.ref b1, .int (nI 0), .int (nI 0)])), (b1, .inl (cy 1, 45, .inl (fun _ => nI 0))), (p0, .inr (3, [.ref p1, .int (nI 0), .int (nI 0)])), (p1, .inl (cy 4, 6, .inr (.inr (.inr (.inr (fun j => if j < 6 then some (p1 + 1 + j) else none)))))), (p1 + 1 + 0, .inl (cy 1, 45, .inl (fun _ => nI 0))), (p1 + 1 + 1, .inl (cy 1, 45, .inl (fun _ => nI 0))), (p1 + 1 + 2, .inl (cy 1, 45, .inl (fun _ => nI 0))), (p1 + 1 + 3, .inl (cy 1, 45, .inl (fun _ => nI 0))), (p1 + 1 + 4, .inl (cy 1, 45, .inl (fun _ => nI 0))), (p1 + 1 + 5, .inl (cy 1, 45, .inl (fun _ => nI 0))), (v0, .inr (7, [.ref b0, .ref v1, .ref v2, .ref v3, .ref v4, .int (nI 0)])), (v1, .inl (cy 4, 8, .inr (.inr (.inr (.inr (fun j => if j < 8 then some (v1 + 1 + j) else none)))))), (v1 + 1 + 0, .inl (cy 1, 41, .inl (fun _ => nI 0))), (v1 + 1 + 1, .inl (cy 1, 41, .inl (fun _ => nI 0))), (v1 + 1 + 2, .inl (cy 1, 41, .inl (fun _ => nI 0))), (v1 + 1 + 3, .inl (cy 1, 41, .inl (fun _ => nI 0))), (v1 + 1 + 4, .inl (cy 1, 41, .inl (fun _ => nI 0))), (v1 + 1 + 5, .inl (cy 1, 41, .inl (fun _ => nI 0))), (v1 + 1 + 6, .inl (cy 1, 41, .inl (fun _ => nI 0))), (v1 + 1 + 7, .inl (cy 1, 41, .inl (fun _ => nI 0))), (v2, .inl (cy 4, 8, .inr (.inr (.inr (.inr (fun j => if j < 8 then some (v2 + 1 + j) else none)))))), (v2 + 1 + 0, .inl (cy 1, 41, .inl (fun _ => nI 0))), (v2 + 1 + 1, .inl (cy 1, 41, .inl (fun _ => nI 0))), (v2 + 1 + 2, .inl (cy 1, 41, .inl (fun _ => nI 0))), (v2 + 1 + 3, .inl (cy 1, 41, .inl (fun _ => nI 0))), (v2 + 1 + 4, .inl (cy 1, 41, .inl (fun _ => nI 0))), (v2 + 1 + 5, .inl (cy 1, 41, .inl (fun _ => nI 0))), (v2 + 1 + 6, .inl (cy 1, 41, .inl (fun _ => nI 0))), (v2 + 1 + 7, .inl (cy 1, 41, .inl (fun _ => nI 0))), (v3, .inl (cy 1, 8, .inl (fun _ => nI 0))), (v4, .inl (cy 1, 8, .inl (fun _ => nI 0))), (s0, .inr (4, [.ref b0, .ref v0, .ref s1, .ref s2])), (s1, .inl (cy 1, 8, .inl (fun _ => nI 0))), (s2, .inl (cy 1, 256, .inl (fun _ => nI 0)))]) C (by decide) dX8_init_79 ff_X8_51 rfl rfl rfl (Nat.le_of_ble_eq_true rfl) rfl ?_
  refine an_aload_n C dX8_init_82 (i := 0) rfl rfl ?_
  refine an_new (ci := 2) (fs := [.null, .null, .null, .null, .int (nI 0), .int (nI 0), .int (nI 0)]) C dX8_init_83 rfl ⟨gw_at 209 (by decide +kernel) rfl, gw_at 210 (by decide +kernel) rfl, gw_at 54 (by decide +kernel) rfl⟩ uw_X2 tyX2_ok (fun j hj => by (match j, hj with | 0, _ => rfl | 1, _ => rfl | 2, _ => rfl | 3, _ => rfl | 4, _ => rfl | 5, _ => rfl | 6, _ => rfl)) (Nat.le_of_ble_eq_true rfl) (Nat.le_of_ble_eq_true rfl) (fun f0 => ?_)
  refine an_dup C dX8_init_86 rfl ?_
  refine an_aload_n C dX8_init_87 (i := 0) rfl rfl ?_
  refine an_get (i := 0) C dX8_init_88 fl_X8_26 rfl rfl ?_
  refine an_aload_n C dX8_init_91 (i := 0) rfl rfl ?_
  refine an_get (i := 0) C dX8_init_92 fl_X8_42 rfl rfl ?_
  refine an_callI (ci := 2) (As := [.ref b0, .ref v0]) (As0 := [.ref v0, .ref b0]) (rest := [.ref f0, .ref h0]) C dX8_init_95 ci_X8_57 ck_X2 rfl rfl rfl ⟨Nat.le_of_ble_eq_true rfl, Nat.le_of_ble_eq_true rfl⟩ (Nat.le_of_ble_eq_true rfl) ⟨Nat.le_of_ble_eq_true rfl, Nat.le_of_ble_eq_true rfl⟩ (fun w1 hp => ?_)
  obtain ⟨f1, f2, rfl⟩ := hp
  refine an_putF (i := 0) (ws' := [(h0, .inr (8, [.ref t0, .ref d0, .ref b0, .ref p0, .ref v0, .ref s0, .ref f0, .null])), (t0, .inr (6, [.ref t1, .int (nI 0)])), (t1, .inl (cy 0, 200, .inl (fun _ => nI 0))), (d0, .inr (1, [.ref d1, .ref d2, .int (nI 0), .int (nI 0), .int (nI 0), .int (nI 0)])), (d1, .inl (cy 1, 40, .inl (fun _ => nI 0))), (d2, .inl (cy 1, 3, .inl (fun _ => nI 0))), (b0, .inr (0, [.ref b1, .int (nI 0), .int (nI 0)])), (b1, .inl (cy 1, 45, .inl (fun _ => nI 0))), (p0, .inr (3, [.ref p1, .int (nI 0), .int (nI 0)])), (p1, .inl (cy 4, 6, .inr (.inr (.inr (.inr (fun j => if j < 6 then some (p1 + 1 + j) else none)))))), (p1 + 1 + 0, .inl (cy 1, 45, .inl (fun _ => nI 0))), (p1 + 1 + 1, .inl (cy 1, 45, .inl (fun _ => nI 0))), (p1 + 1 + 2, .inl (cy 1, 45, .inl (fun _ => nI 0))), (p1 + 1 + 3, .inl (cy 1, 45, .inl (fun _ => nI 0))), (p1 + 1 + 4, .inl (cy 1, 45, .inl (fun _ => nI 0))), (p1 + 1 + 5, .inl (cy 1, 45, .inl (fun _ => nI 0))), (v0, .inr (7, [.ref b0, .ref v1, .ref v2, .ref v3, .ref v4, .int (nI 0)])), (v1, .inl (cy 4, 8, .inr (.inr (.inr (.inr (fun j => if j < 8 then some (v1 + 1 + j) else none)))))), (v1 + 1 + 0, .inl (cy 1, 41, .inl (fun _ => nI 0))), (v1 + 1 + 1, .inl (cy 1, 41, .inl (fun _ => nI 0))), (v1 + 1 + 2, .inl (cy 1, 41, .inl (fun _ => nI 0))), (v1 + 1 + 3, .inl (cy 1, 41, .inl (fun _ => nI 0))), (v1 + 1 + 4, .inl (cy 1, 41, .inl (fun _ => nI 0))), (v1 + 1 + 5, .inl (cy 1, 41, .inl (fun _ => nI 0))), (v1 + 1 + 6, .inl (cy 1, 41, .inl (fun _ => nI 0))), (v1 + 1 + 7, .inl (cy 1, 41, .inl (fun _ => nI 0))), (v2, .inl (cy 4, 8, .inr (.inr (.inr (.inr (fun j => if j < 8 then some (v2 + 1 + j) else none)))))), (v2 + 1 + 0, .inl (cy 1, 41, .inl (fun _ => nI 0))), (v2 + 1 + 1, .inl (cy 1, 41, .inl (fun _ => nI 0))), (v2 + 1 + 2, .inl (cy 1, 41, .inl (fun _ => nI 0))), (v2 + 1 + 3, .inl (cy 1, 41, .inl (fun _ => nI 0))), (v2 + 1 + 4, .inl (cy 1, 41, .inl (fun _ => nI 0))), (v2 + 1 + 5, .inl (cy 1, 41, .inl (fun _ => nI 0))), (v2 + 1 + 6, .inl (cy 1, 41, .inl (fun _ => nI 0))), (v2 + 1 + 7, .inl (cy 1, 41, .inl (fun _ => nI 0))), (v3, .inl (cy 1, 8, .inl (fun _ => nI 0))), (v4, .inl (cy 1, 8, .inl (fun _ => nI 0))), (s0, .inr (4, [.ref b0, .ref v0, .ref s1, .ref s2])), (s1, .inl (cy 1, 8, .inl (fun _ => nI 0))), (s2, .inl (cy 1, 256, .inl (fun _ => nI 0))), (f0, .inr (2, [.ref b0, .ref v0, .ref f1, .ref f2, .int (nI 0), .int (nI 0), .int (nI 0)])), (f1, .inl (cy 1, 41, .inl (fun _ => nI 0))), (f2, .inl (cy 2, 8, .inr (.inl (fun _ => 0))))]) C (by decide) dX8_init_98 ff_X8_58 rfl rfl rfl (Nat.le_of_ble_eq_true rfl) rfl ?_
  refine an_aload_n C dX8_init_101 (i := 0) rfl rfl ?_
  refine an_new (ci := 5) (fs := [.null, .null, .null, .null, .null, .null]) C dX8_init_102 rfl ⟨gw_at 240 (by decide +kernel) rfl, gw_at 241 (by decide +kernel) rfl, gw_at 55 (by decide +kernel) rfl⟩ uw_X5 tyX5_ok (fun j hj => by (match j, hj with | 0, _ => rfl | 1, _ => rfl | 2, _ => rfl | 3, _ => rfl | 4, _ => rfl | 5, _ => rfl)) (Nat.le_of_ble_eq_true rfl) (Nat.le_of_ble_eq_true rfl) (fun g0 => ?_)
  refine an_dup C dX8_init_105 rfl ?_
  refine an_aload_n C dX8_init_106 (i := 0) rfl rfl ?_
  refine an_get (i := 0) C dX8_init_107 fl_X8_26 rfl rfl ?_
  refine an_callI (ci := 5) (As := [.ref b0]) (As0 := [.ref b0]) (rest := [.ref g0, .ref h0]) C dX8_init_110 ci_X8_64 ck_X5 rfl rfl rfl ⟨Nat.le_of_ble_eq_true rfl, Nat.le_of_ble_eq_true rfl⟩ (Nat.le_of_ble_eq_true rfl) ⟨Nat.le_of_ble_eq_true rfl, Nat.le_of_ble_eq_true rfl⟩ (fun w1 hp => ?_)
  obtain ⟨g1, g2, g3, g4, g5, rfl⟩ := hp
  refine an_putF (i := 0) (ws' := [(h0, .inr (8, [.ref t0, .ref d0, .ref b0, .ref p0, .ref v0, .ref s0, .ref f0, .ref g0])), (t0, .inr (6, [.ref t1, .int (nI 0)])), (t1, .inl (cy 0, 200, .inl (fun _ => nI 0))), (d0, .inr (1, [.ref d1, .ref d2, .int (nI 0), .int (nI 0), .int (nI 0), .int (nI 0)])), (d1, .inl (cy 1, 40, .inl (fun _ => nI 0))), (d2, .inl (cy 1, 3, .inl (fun _ => nI 0))), (b0, .inr (0, [.ref b1, .int (nI 0), .int (nI 0)])), (b1, .inl (cy 1, 45, .inl (fun _ => nI 0))), (p0, .inr (3, [.ref p1, .int (nI 0), .int (nI 0)])), (p1, .inl (cy 4, 6, .inr (.inr (.inr (.inr (fun j => if j < 6 then some (p1 + 1 + j) else none)))))), (p1 + 1 + 0, .inl (cy 1, 45, .inl (fun _ => nI 0))), (p1 + 1 + 1, .inl (cy 1, 45, .inl (fun _ => nI 0))), (p1 + 1 + 2, .inl (cy 1, 45, .inl (fun _ => nI 0))), (p1 + 1 + 3, .inl (cy 1, 45, .inl (fun _ => nI 0))), (p1 + 1 + 4, .inl (cy 1, 45, .inl (fun _ => nI 0))), (p1 + 1 + 5, .inl (cy 1, 45, .inl (fun _ => nI 0))), (v0, .inr (7, [.ref b0, .ref v1, .ref v2, .ref v3, .ref v4, .int (nI 0)])), (v1, .inl (cy 4, 8, .inr (.inr (.inr (.inr (fun j => if j < 8 then some (v1 + 1 + j) else none)))))), (v1 + 1 + 0, .inl (cy 1, 41, .inl (fun _ => nI 0))), (v1 + 1 + 1, .inl (cy 1, 41, .inl (fun _ => nI 0))), (v1 + 1 + 2, .inl (cy 1, 41, .inl (fun _ => nI 0))), (v1 + 1 + 3, .inl (cy 1, 41, .inl (fun _ => nI 0))), (v1 + 1 + 4, .inl (cy 1, 41, .inl (fun _ => nI 0))), (v1 + 1 + 5, .inl (cy 1, 41, .inl (fun _ => nI 0))), (v1 + 1 + 6, .inl (cy 1, 41, .inl (fun _ => nI 0))), (v1 + 1 + 7, .inl (cy 1, 41, .inl (fun _ => nI 0))), (v2, .inl (cy 4, 8, .inr (.inr (.inr (.inr (fun j => if j < 8 then some (v2 + 1 + j) else none)))))), (v2 + 1 + 0, .inl (cy 1, 41, .inl (fun _ => nI 0))), (v2 + 1 + 1, .inl (cy 1, 41, .inl (fun _ => nI 0))), (v2 + 1 + 2, .inl (cy 1, 41, .inl (fun _ => nI 0))), (v2 + 1 + 3, .inl (cy 1, 41, .inl (fun _ => nI 0))), (v2 + 1 + 4, .inl (cy 1, 41, .inl (fun _ => nI 0))), (v2 + 1 + 5, .inl (cy 1, 41, .inl (fun _ => nI 0))), (v2 + 1 + 6, .inl (cy 1, 41, .inl (fun _ => nI 0))), (v2 + 1 + 7, .inl (cy 1, 41, .inl (fun _ => nI 0))), (v3, .inl (cy 1, 8, .inl (fun _ => nI 0))), (v4, .inl (cy 1, 8, .inl (fun _ => nI 0))), (s0, .inr (4, [.ref b0, .ref v0, .ref s1, .ref s2])), (s1, .inl (cy 1, 8, .inl (fun _ => nI 0))), (s2, .inl (cy 1, 256, .inl (fun _ => nI 0))), (f0, .inr (2, [.ref b0, .ref v0, .ref f1, .ref f2, .int (nI 0), .int (nI 0), .int (nI 0)])), (f1, .inl (cy 1, 41, .inl (fun _ => nI 0))), (f2, .inl (cy 2, 8, .inr (.inl (fun _ => 0)))), (g0, .inr (5, [.ref b0, .ref g1, .ref g2, .ref g3, .ref g4, .ref g5])), (g1, .inl (cy 3, 2, .inl (fun _ => nI 0))), (g2, .inl (cy 1, 2, .inl (fun _ => nI 0))), (g3, .inl (cy 1, 2, .inl (fun _ => nI 0))), (g4, .inl (cy 1, 2, .inl (fun _ => nI 0))), (g5, .inl (cy 1, 2, .inl (fun _ => nI 0)))]) C (by decide) dX8_init_113 ff_X8_65 rfl rfl rfl (Nat.le_of_ble_eq_true rfl) rfl ?_
  refine an_iconst C dX8_init_116 ki_0 ?_
  refine an_istore_n (lv' := [(0, .ref h0), (1, .int (nI 0))]) C dX8_init_117 (i := 1) rfl (Nat.le_of_ble_eq_true rfl) rfl ?_
  refine an_cell (i := 9) (g' := fun i => some ((fun k => [h0, t0, d0, b0, p0, v0, s0, f0, g0, t1, d1, d2, b1, p1, p1 + 1 + 0, p1 + 1 + 1, p1 + 1 + 2, p1 + 1 + 3, p1 + 1 + 4, p1 + 1 + 5, v1, v1 + 1 + 0, v1 + 1 + 1, v1 + 1 + 2, v1 + 1 + 3, v1 + 1 + 4, v1 + 1 + 5, v1 + 1 + 6, v1 + 1 + 7, v2, v2 + 1 + 0, v2 + 1 + 1, v2 + 1 + 2, v2 + 1 + 3, v2 + 1 + 4, v2 + 1 + 5, v2 + 1 + 6, v2 + 1 + 7, v3, v4, s1, s2, f1, f2, g1, g2, g3, g4, g5].getD k 0) (14 + i))) rfl (fun j hj => by (match j, hj with | 0, _ => rfl | 1, _ => rfl | 2, _ => rfl | 3, _ => rfl | 4, _ => rfl | 5, _ => rfl)) rfl ?_
  refine an_cell (i := 17) (g' := fun i => some ((fun k => [h0, t0, d0, b0, p0, v0, s0, f0, g0, t1, d1, d2, b1, p1, p1 + 1 + 0, p1 + 1 + 1, p1 + 1 + 2, p1 + 1 + 3, p1 + 1 + 4, p1 + 1 + 5, v1, v1 + 1 + 0, v1 + 1 + 1, v1 + 1 + 2, v1 + 1 + 3, v1 + 1 + 4, v1 + 1 + 5, v1 + 1 + 6, v1 + 1 + 7, v2, v2 + 1 + 0, v2 + 1 + 1, v2 + 1 + 2, v2 + 1 + 3, v2 + 1 + 4, v2 + 1 + 5, v2 + 1 + 6, v2 + 1 + 7, v3, v4, s1, s2, f1, f2, g1, g2, g3, g4, g5].getD k 0) (21 + i))) rfl (fun j hj => by (match j, hj with | 0, _ => rfl | 1, _ => rfl | 2, _ => rfl | 3, _ => rfl | 4, _ => rfl | 5, _ => rfl | 6, _ => rfl | 7, _ => rfl)) rfl ?_
  refine an_cell (i := 26) (g' := fun i => some ((fun k => [h0, t0, d0, b0, p0, v0, s0, f0, g0, t1, d1, d2, b1, p1, p1 + 1 + 0, p1 + 1 + 1, p1 + 1 + 2, p1 + 1 + 3, p1 + 1 + 4, p1 + 1 + 5, v1, v1 + 1 + 0, v1 + 1 + 1, v1 + 1 + 2, v1 + 1 + 3, v1 + 1 + 4, v1 + 1 + 5, v1 + 1 + 6, v1 + 1 + 7, v2, v2 + 1 + 0, v2 + 1 + 1, v2 + 1 + 2, v2 + 1 + 3, v2 + 1 + 4, v2 + 1 + 5, v2 + 1 + 6, v2 + 1 + 7, v3, v4, s1, s2, f1, f2, g1, g2, g3, g4, g5].getD k 0) (30 + i))) rfl (fun j hj => by (match j, hj with | 0, _ => rfl | 1, _ => rfl | 2, _ => rfl | 3, _ => rfl | 4, _ => rfl | 5, _ => rfl | 6, _ => rfl | 7, _ => rfl)) rfl ?_
  refine an_perm (ws' := wl 49 (fun k => [h0, t0, d0, b0, p0, v0, s0, f0, g0, t1, d1, d2, b1, p1, p1 + 1 + 0, p1 + 1 + 1, p1 + 1 + 2, p1 + 1 + 3, p1 + 1 + 4, p1 + 1 + 5, v1, v1 + 1 + 0, v1 + 1 + 1, v1 + 1 + 2, v1 + 1 + 3, v1 + 1 + 4, v1 + 1 + 5, v1 + 1 + 6, v1 + 1 + 7, v2, v2 + 1 + 0, v2 + 1 + 1, v2 + 1 + 2, v2 + 1 + 3, v2 + 1 + 4, v2 + 1 + 5, v2 + 1 + 6, v2 + 1 + 7, v3, v4, s1, s2, f1, f2, g1, g2, g3, g4, g5].getD k 0) (bwC cy (fun k => [h0, t0, d0, b0, p0, v0, s0, f0, g0, t1, d1, d2, b1, p1, p1 + 1 + 0, p1 + 1 + 1, p1 + 1 + 2, p1 + 1 + 3, p1 + 1 + 4, p1 + 1 + 5, v1, v1 + 1 + 0, v1 + 1 + 1, v1 + 1 + 2, v1 + 1 + 3, v1 + 1 + 4, v1 + 1 + 5, v1 + 1 + 6, v1 + 1 + 7, v2, v2 + 1 + 0, v2 + 1 + 1, v2 + 1 + 2, v2 + 1 + 3, v2 + 1 + 4, v2 + 1 + 5, v2 + 1 + 6, v2 + 1 + 7, v3, v4, s1, s2, f1, f2, g1, g2, g3, g4, g5].getD k 0) 0 0 0 0 0 0 0 0 0 (nI 0) (nI 0) (nI 0) (nI 0) (apL 0) zI zI zI (fun _ => zI) (fun _ => zI) (fun _ => zI) zI zI zI zI zI (fun _ => 0) zI zI zI zI zI)) [0, 1, 3, 6, 8, 16, 37, 40, 43, 2, 4, 5, 7, 9, 10, 11, 12, 13, 14, 15, 17, 18, 19, 20, 21, 22, 23, 24, 25, 26, 27, 28, 29, 30, 31, 32, 33, 34, 35, 36, 38, 39, 41, 42, 44, 45, 46, 47, 48] rfl (by decide) ?_
  refine an_wI (fun hI => ?_)
  refine ck_X8_l hv C hI ⟨Nat.le_of_ble_eq_true rfl, Nat.le_of_ble_eq_true rfl, Nat.le_of_ble_eq_true rfl, Nat.le_of_ble_eq_true rfl⟩ ?_ 81 0 (by omega) (by omega)
  refine ck_X8_e hv C hI ⟨Nat.le_of_ble_eq_true rfl, Nat.le_of_ble_eq_true rfl, Nat.le_of_ble_eq_true rfl, Nat.le_of_ble_eq_true rfl⟩ (fun g hg => ?_)
  exact an_vret C hr dX8_init_159 ⟨_, g, rfl, hI, rfl, hg⟩
