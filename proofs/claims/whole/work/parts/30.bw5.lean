-- BondedWires: the loop search
theorem updL_s {g : Nat → Int64} {n : Nat} {x : Int64} : vp_updL g n x n = x := by unfold vp_updL; exact if_pos rfl
theorem updL_n {g : Nat → Int64} {n j : Nat} {x : Int64} (h : j ≠ n) : vp_updL g n x j = g j := by unfold vp_updL; exact if_neg h
def clN (h : Nat → Int32) (S i k : Nat) : Nat := mkS (clsB h S i k) (S + 1)
theorem clN_lt {h : Nat → Int32} {S i k : Nat} (hS : S ≤ 40) : clN h S i k < 2 ^ 63 := Nat.lt_of_lt_of_le (mkS_lt _ _) (Nat.pow_le_pow_right (by omega) (by omega))
theorem clN_tb {h : Nat → Int32} {S i k y : Nat} (hy : y ≤ S) : (clN h S i k).testBit y = clsB h S i k y := mkS_tb _ _ _ (by omega)
set_option maxRecDepth 20000 in
/-- findCloseRows, its loop -/
theorem cb_findCloseRows_i {l : Launch} {D : va_G} {cy : Nat → ClassId} {z : Nat → Nat} {q : Nat → Nat} {p : Program} {e : Env} {s : State} {m : MethodId} {args : Array Value} {below : List Frame} {meth : Method} {c : Code} {Q : State → Prop} (hI : wI 49 q) (C : Cx p s m args meth c cX2_findCloseRows 6 RX2 D cy z 49 q) (hr : meth.sig.returnType = none) {tl dsp dwi dat bsp bwi pnx phd vkn : Nat} {dff lbl lsh lpk : Int32} {lett : Nat → Nat} {num lim now : Nat → Int32} {prw plr hgr : Nat → Nat → Int32} {bk bd wio wys trl : Nat → Int32} {clr : Nat → Int64} {tld tie fst las saw : Nat → Int32} {i k : Nat} (hi : i < bwi) (hk : k < bwi) {h : Nat → Int32} (hO : hOK h bwi) (hP : vPl plr h bsp bwi) (hH : vHg hgr h bsp bwi) (hA : agr now h bwi) (hs : 8 ≤ bsp) (hs2 : bsp ≤ 40) (hw : bwi ≤ 8) (K : AW p l e { frames := 2, cells := 0, slots := 0, locals := 55 } s m args below meth c D 49 q 6 Q (bwC cy q tl dsp dwi dat bsp bwi pnx phd vkn dff lbl lsh lpk lett num lim now prw plr hgr bk bd wio wys trl clr tld tie fst las saw) [(3, .long (lN (clN h bsp i k))), (0, .ref (q 7)), (1, .int (nI i)), (2, .int (nI k)), (5, .int (nI (bsp + 1)))] 57 []) : ∀ (d : Nat) (y : Nat), bsp + 1 - y < d → (y ≤ bsp + 1) → AW p l e { frames := 2, cells := 0, slots := 0, locals := 55 } s m args below meth c D 49 q 6 Q (bwC cy q tl dsp dwi dat bsp bwi pnx phd vkn dff lbl lsh lpk lett num lim now prw plr hgr bk bd wio wys trl clr tld tie fst las saw) [(3, .long (lN (mkS (clsB h bsp i k) y))), (0, .ref (q 7)), (1, .int (nI i)), (2, .int (nI k)), (5, .int (nI y))] 18 [] := by
  intro d
  induction d with
  | zero => intro y hd; exact absurd hd (Nat.not_lt_zero _)
  | succ d ih =>
    intro y hd iv0
    refine aw_iload C dX2_findCloseRows_18 rfl ?_
    refine aw_aload_n C dX2_findCloseRows_20 (i := 0) rfl rfl ?_
    refine aw_get (k := 7) C dX2_findCloseRows_21 fl_X2_19 (by decide) rfl rfl ?_
    refine aw_get (k := 3) C dX2_findCloseRows_24 fl_X2_57 (by decide) rfl rfl ?_
    refine aw_icmp_gt_n (tgt := 57) C dX2_findCloseRows_27 (by decide) (by omega) (by omega) (fun h27 => ?_) (fun h27 => ?_)
    · obtain rfl : y = bsp + 1 := by omega
      exact K
    · refine aw_aload_n C dX2_findCloseRows_30 (i := 0) rfl rfl ?_
      refine aw_get (k := 7) C dX2_findCloseRows_31 fl_X2_23 (by decide) rfl rfl ?_
      refine aw_iload_n C dX2_findCloseRows_34 (i := 1) rfl rfl ?_
      refine aw_iload_n C dX2_findCloseRows_35 (i := 2) rfl rfl ?_
      refine aw_iload C dX2_findCloseRows_36 rfl ?_
      refine aw_V3i (k := 5) C dX2_findCloseRows_38 cv_X2_60 (by decide) rfl rfl rfl (cb_closeAt hI (by omega) (by omega) (by omega) hO hP hH hA hs hs2 hw) ⟨Nat.le_of_ble_eq_true rfl, Nat.le_of_ble_eq_true rfl⟩ (Nat.le_of_ble_eq_true rfl) ?_
      refine aw_if_eq_b (tgt := 51) C dX2_findCloseRows_41 (by decide) (fun h41 => ?_) (fun h41 => ?_)
      · refine aw_iinc_n (lv' := [(3, _), (0, _), (1, _), (2, _), (5, _)]) C dX2_findCloseRows_51 rfl ki_1 (Nat.le_of_ble_eq_true rfl) rfl ?_
        refine aw_goto (tgt := 18) C dX2_findCloseRows_54 (by decide) ?_
        have k9 := ih (y + 1) (by omega) (by omega)
        rw [mkS_s, if_neg (show ¬ clsB h bsp i k y = true by rw [h41]; decide)] at k9
        exact k9
      · refine aw_lload_n C dX2_findCloseRows_44 (i := 3) rfl rfl ?_
        refine aw_lconst C dX2_findCloseRows_45 rfl ?_
        refine aw_iload C dX2_findCloseRows_46 rfl ?_
        refine aw_lshl C dX2_findCloseRows_48 rfl ?_
        refine aw_lor C dX2_findCloseRows_49 ?_
        refine aw_lstore_n (lv' := [(3, _), (0, _), (1, _), (2, _), (5, _)]) C dX2_findCloseRows_50 (i := 3) rfl (Nat.le_of_ble_eq_true rfl) rfl ?_
        refine aw_iinc_n (lv' := [(3, _), (0, _), (1, _), (2, _), (5, _)]) C dX2_findCloseRows_51 rfl ki_1 (Nat.le_of_ble_eq_true rfl) rfl ?_
        refine aw_goto (tgt := 18) C dX2_findCloseRows_54 (by decide) ?_
        have k9 := ih (y + 1) (by omega) (by omega)
        rw [← mkS_or h41, ← lN_or, ← lN_shl y (by omega)] at k9
        exact k9
set_option maxRecDepth 20000 in
/-- findCloseRows, its loop -/
theorem cb_findCloseRows_l {l : Launch} {D : va_G} {cy : Nat → ClassId} {z : Nat → Nat} {q : Nat → Nat} {p : Program} {e : Env} {s : State} {m : MethodId} {args : Array Value} {below : List Frame} {meth : Method} {c : Code} (hI : wI 49 q) (C : Cx p s m args meth c cX2_findCloseRows 6 RX2 D cy z 49 q) (hr : meth.sig.returnType = none) {tl dsp dwi dat bsp bwi pnx phd vkn : Nat} {dff lbl lsh lpk : Int32} {lett : Nat → Nat} {num lim now : Nat → Int32} {prw plr hgr : Nat → Nat → Int32} {bk bd wio wys trl : Nat → Int32} {tld tie fst las saw : Nat → Int32} {i : Nat} (hi : i < bwi) {h : Nat → Int32} (hO : hOK h bwi) (hP : vPl plr h bsp bwi) (hH : vHg hgr h bsp bwi) (hA : agr now h bwi) (hs : 8 ≤ bsp) (hs2 : bsp ≤ 40) (hw : bwi ≤ 8) : ∀ (d : Nat) (k : Nat) (clr : Nat → Int64), bwi - k < d → (k ≤ bwi) → (∀ j, j < k → clr j = lN (clN h bsp i j)) → AW p l e { frames := 2, cells := 0, slots := 0, locals := 55 } s m args below meth c D 49 q 6 (MQ below (Qg D 49 q (PY (fun g => ∃ c9, g = (bwC cy q tl dsp dwi dat bsp bwi pnx phd vkn dff lbl lsh lpk lett num lim now prw plr hgr bk bd wio wys trl c9 tld tie fst las saw) ∧ ∀ k, k < bwi → c9 k = lN (clN h bsp i k))) (wA 49 q s.heap.size)) args s 0 0 (wA 49 q s.heap.size)) (bwC cy q tl dsp dwi dat bsp bwi pnx phd vkn dff lbl lsh lpk lett num lim now prw plr hgr bk bd wio wys trl clr tld tie fst las saw) [(0, .ref (q 7)), (1, .int (nI i)), (2, .int (nI k))] 2 [] := by
  intro d
  induction d with
  | zero => intro k clr hd; exact absurd hd (Nat.not_lt_zero _)
  | succ d ih =>
    intro k clr hd iv0 iv1
    refine aw_iload_n C dX2_findCloseRows_2 (i := 2) rfl rfl ?_
    refine aw_aload_n C dX2_findCloseRows_3 (i := 0) rfl rfl ?_
    refine aw_get (k := 7) C dX2_findCloseRows_4 fl_X2_19 (by decide) rfl rfl ?_
    refine aw_get (k := 3) C dX2_findCloseRows_7 fl_X2_54 (by decide) rfl rfl ?_
    refine aw_icmp_ge_n (tgt := 70) C dX2_findCloseRows_10 (by decide) (by omega) (by omega) (fun h10 => ?_) (fun h10 => ?_)
    · refine aw_vret C hr dX2_findCloseRows_70 ?_
      obtain rfl : k = bwi := by omega
      exact ⟨rfl, _, rfl, iv1⟩
    · refine aw_lconst C dX2_findCloseRows_13 rfl ?_
      refine aw_lstore_n (lv' := [(3, _), (0, _), (1, _), (2, _)]) C dX2_findCloseRows_14 (i := 3) rfl (Nat.le_of_ble_eq_true rfl) rfl ?_
      refine aw_iconst C dX2_findCloseRows_15 ki_0 ?_
      refine aw_istore (lv' := [(3, _), (0, _), (1, _), (2, _), (5, _)]) C dX2_findCloseRows_16 (Nat.le_of_ble_eq_true rfl) rfl ?_
      refine cb_findCloseRows_i hI C hr hi (by omega) hO hP hH hA hs hs2 hw ?_ (bsp + 2) 0 (by omega) (by omega)
      refine aw_aload_n C dX2_findCloseRows_57 (i := 0) rfl rfl ?_
      refine aw_get (k := 7) C dX2_findCloseRows_58 fl_X2_15 (by decide) rfl rfl ?_
      refine aw_iload_n C dX2_findCloseRows_61 (i := 2) rfl rfl ?_
      refine aw_lload_n C dX2_findCloseRows_62 (i := 3) rfl rfl ?_
      refine aw_last (k := 43) C dX2_findCloseRows_63 (by decide) rfl (rfl) (by omega) (by decide) (bw_a_clr) ?_
      refine aw_iinc_n (lv' := [(3, _), (0, _), (1, _), (2, _), (5, _)]) C dX2_findCloseRows_64 rfl ki_1 (Nat.le_of_ble_eq_true rfl) rfl ?_
      refine aw_goto (tgt := 2) C dX2_findCloseRows_67 (by decide) ?_
      refine aw_dt 1 3 (lv' := [(0, _), (1, _), (2, _)]) rfl ?_
      refine ih (k + 1) _ (by omega) (by omega) (fun j hj => ?_)
      by_cases g9 : j = k
      · rw [g9]; exact updL_s
      · rw [updL_n g9]
        exact iv1 j (by omega)
set_option maxRecDepth 20000 in
/-- findCloseRows -/
theorem cb_findCloseRows {l : Launch} {D : va_G} {cy : Nat → ClassId} {z : Nat → Nat} {q : Nat → Nat} (hI : wI 49 q) {tl dsp dwi dat bsp bwi pnx phd vkn : Nat} {dff lbl lsh lpk : Int32} {lett : Nat → Nat} {num lim now : Nat → Int32} {prw plr hgr : Nat → Nat → Int32} {bk bd wio wys trl : Nat → Int32} {clr : Nat → Int64} {tld tie fst las saw : Nat → Int32} {i : Nat} (hi : i < bwi) {h : Nat → Int32} (hO : hOK h bwi) (hP : vPl plr h bsp bwi) (hH : vHg hgr h bsp bwi) (hA : agr now h bwi) (hs : 8 ≤ bsp) (hs2 : bsp ≤ 40) (hw : bwi ≤ 8) : Ct l yX2_findCloseRows cX2_findCloseRows 6 none 2 55 D cy z 49 q [.ref (q 7), .int (nI i)] (bwC cy q tl dsp dwi dat bsp bwi pnx phd vkn dff lbl lsh lpk lett num lim now prw plr hgr bk bd wio wys trl clr tld tie fst las saw) (PY (fun g => ∃ c9, g = (bwC cy q tl dsp dwi dat bsp bwi pnx phd vkn dff lbl lsh lpk lett num lim now prw plr hgr bk bd wio wys trl c9 tld tie fst las saw) ∧ ∀ k, k < bwi → c9 k = lN (clN h bsp i k))) := by
  refine Ct.of (own := RX2) (by decide) rfl hI (Nat.le_of_ble_eq_true rfl) ?_
  intro p e s m args below meth c C hr
  refine aw_lv (lv' := [(0, .ref (q 7)), (1, .int (nI i))]) (fun x hx => hx) ?_
  refine aw_iconst C dX2_findCloseRows_0 ki_0 ?_
  refine aw_istore_n (lv' := [(0, _), (1, _), (2, _)]) C dX2_findCloseRows_1 (i := 2) rfl (Nat.le_of_ble_eq_true rfl) rfl ?_
  exact cb_findCloseRows_l hI C hr hi hO hP hH hA hs hs2 hw (bwi + 1) 0 _ (by omega) (by omega) (fun j hj => absurd hj (Nat.not_lt_zero j))
set_option maxRecDepth 20000 in
/-- shapeAtTurn -/
theorem cb_shapeAtTurn {l : Launch} {D : va_G} {cy : Nat → ClassId} {z : Nat → Nat} {q : Nat → Nat} {N : Nat} (hI : wI N q) {f : wS} {t u : Nat} (ht : t ≤ 2) (hu : u ≤ 2) : Ct l yX2_shapeAtTurn cX2_shapeAtTurn 2 (some .int) 0 0 D cy z N q [.int (nI t), .int (nI u)] f (PI (nI (sT t u)) f) := by
  refine Ct.of (own := RX2) (by decide) rfl hI (Nat.le_of_ble_eq_true rfl) ?_
  intro p e s m args below meth c C hr
  refine aw_lv (lv' := [(0, .int (nI t)), (1, .int (nI u))]) (fun x hx => hx) ?_
  refine aw_iload_n C dX2_shapeAtTurn_0 (i := 1) rfl rfl ?_
  refine aw_if_ne_n (tgt := 6) C dX2_shapeAtTurn_1 (by decide) (by omega) (fun h1 => ?_) (fun h1 => ?_)
  · refine aw_iload_n C dX2_shapeAtTurn_6 (i := 1) rfl rfl ?_
    refine aw_iload_n C dX2_shapeAtTurn_7 (i := 0) rfl rfl ?_
    refine aw_icmp_gt_n (tgt := 17) C dX2_shapeAtTurn_8 (by decide) (by omega) (by omega) (fun h8 => ?_) (fun h8 => ?_)
    · refine aw_iload_n C dX2_shapeAtTurn_17 (i := 1) rfl rfl ?_
      refine aw_iret C hr dX2_shapeAtTurn_18 ?_
      exact PI.mk (by unfold sT; rw [if_neg (by omega), if_neg (by omega)]) rfl
    · refine aw_iload_n C dX2_shapeAtTurn_11 (i := 1) rfl rfl ?_
      refine aw_iconst C dX2_shapeAtTurn_12 ki_1 ?_
      refine aw_isub_n C dX2_shapeAtTurn_13 (by omega) ?_
      refine aw_goto (tgt := 18) C dX2_shapeAtTurn_14 (by decide) ?_
      refine aw_iret C hr dX2_shapeAtTurn_18 ?_
      exact PI.mk (by unfold sT; rw [if_neg (by omega), if_pos (by omega)]) rfl
  · refine aw_iload_n C dX2_shapeAtTurn_4 (i := 0) rfl rfl ?_
    refine aw_iret C hr dX2_shapeAtTurn_5 ?_
    exact PI.mk (by unfold sT; rw [if_pos (by omega)]) rfl
set_option maxRecDepth 20000 in
/-- isNear, its loop -/
theorem cb_isNear_l {l : Launch} {D : va_G} {cy : Nat → ClassId} {z : Nat → Nat} {q : Nat → Nat} {p : Program} {e : Env} {s : State} {m : MethodId} {args : Array Value} {below : List Frame} {meth : Method} {c : Code} (hI : wI 49 q) (C : Cx p s m args meth c cX2_isNear 5 RX2 D cy z 49 q) (hr : meth.sig.returnType = (some .boolean)) {tl dsp dwi dat bsp bwi pnx phd vkn : Nat} {dff lbl lsh lpk : Int32} {lett : Nat → Nat} {num lim now : Nat → Int32} {prw plr hgr : Nat → Nat → Int32} {bk bd wio wys trl : Nat → Int32} {clr : Nat → Int64} {tld tie fst las saw : Nat → Int32} {i k : Nat} (hk : k < bwi) {h : Nat → Int32} (hO : hOK h bwi) (hP : vPl plr h bsp bwi) (hH : vHg hgr h bsp bwi) (hA : agr now h bwi) (hT : ∀ y, y ≤ bsp → sml (trl y)) (hs : 8 ≤ bsp) (hs2 : bsp ≤ 40) (hw : bwi ≤ 8) : ∀ (d : Nat) (y : Nat), bsp + 1 - y < d → (y ≤ bsp + 1) → (∀ j, j < y → nrT h bsp i k trl j = false) → AW p l e { frames := 1, cells := 0, slots := 0, locals := 32 } s m args below meth c D 49 q 5 (MQ below (Qg D 49 q (PI (bi (anyB (nrT h bsp i k trl) (bsp + 1))) (bwC cy q tl dsp dwi dat bsp bwi pnx phd vkn dff lbl lsh lpk lett num lim now prw plr hgr bk bd wio wys trl clr tld tie fst las saw)) (wA 49 q s.heap.size)) args s 0 0 (wA 49 q s.heap.size)) (bwC cy q tl dsp dwi dat bsp bwi pnx phd vkn dff lbl lsh lpk lett num lim now prw plr hgr bk bd wio wys trl clr tld tie fst las saw) [(2, .long (lN (clN h bsp i k >>> y))), (0, .ref (q 7)), (1, .int (nI k)), (4, .int (nI y))] 10 [] := by
  intro d
  induction d with
  | zero => intro y hd; exact absurd hd (Nat.not_lt_zero _)
  | succ d ih =>
    intro y hd iv0 iv1
    refine aw_iload C dX2_isNear_10 rfl ?_
    refine aw_aload_n C dX2_isNear_12 (i := 0) rfl rfl ?_
    refine aw_get (k := 7) C dX2_isNear_13 fl_X2_19 (by decide) rfl rfl ?_
    refine aw_get (k := 3) C dX2_isNear_16 fl_X2_57 (by decide) rfl rfl ?_
    refine aw_icmp_gt_n (tgt := 80) C dX2_isNear_19 (by decide) (by omega) (by omega) (fun h19 => ?_) (fun h19 => ?_)
    · refine aw_iconst C dX2_isNear_80 ki_0 ?_
      refine aw_zret C hr dX2_isNear_81 (by decide) ?_
      refine PI.mk (bi_f (anyB_f.mpr (fun j hj => ?_))) rfl
      exact iv1 j (by omega)
    · have s9 := shr_lt (y := y) (clN_lt (h := h) (i := i) (k := k) hs2)
      refine aw_lload_n C dX2_isNear_22 (i := 2) rfl rfl ?_
      refine aw_lconst C dX2_isNear_23 rfl ?_
      refine aw_lcmp C dX2_isNear_24 ?_
      refine aw_if_eq (tgt := 80) C dX2_isNear_25 (by decide) (fun h25 => ?_) (fun h25 => ?_)
      · refine aw_iconst C dX2_isNear_80 ki_0 ?_
        refine aw_zret C hr dX2_isNear_81 (by decide) ?_
        refine PI.mk (bi_f (anyB_f.mpr (fun j hj => ?_))) rfl
        rcases Nat.lt_or_ge j y with g | g
        · exact iv1 j g
        · have z9 := (lN_0 s9).mp h25
          unfold nrT
          rw [← clN_tb (by omega), sh_0 z9 g]
          rfl
      · refine aw_lload_n C dX2_isNear_28 (i := 2) rfl rfl ?_
        refine aw_lconst C dX2_isNear_29 rfl ?_
        refine aw_land C dX2_isNear_30 ?_
        refine aw_lconst C dX2_isNear_31 rfl ?_
        refine aw_lcmp C dX2_isNear_32 ?_
        refine aw_if_eq (tgt := 70) C dX2_isNear_33 (by decide) (fun h33 => ?_) (fun h33 => ?_)
        · refine aw_lload_n C dX2_isNear_70 (i := 2) rfl rfl ?_
          refine aw_iconst C dX2_isNear_71 ki_1 ?_
          refine aw_lushr C dX2_isNear_72 rfl ?_
          refine aw_lstore_n (lv' := [(2, _), (0, _), (1, _), (4, _)]) C dX2_isNear_73 (i := 2) rfl (Nat.le_of_ble_eq_true rfl) rfl ?_
          refine aw_iinc_n (lv' := [(2, _), (0, _), (1, _), (4, _)]) C dX2_isNear_74 rfl ki_1 (Nat.le_of_ble_eq_true rfl) rfl ?_
          refine aw_goto (tgt := 10) C dX2_isNear_77 (by decide) ?_
          have t9 : clsB h bsp i k y = false := by
            rw [← clN_tb (by omega)]
            refine sh_1.mp ((lN_0 (Nat.lt_of_le_of_lt Nat.and_le_left s9)).mp ?_)
            rw [← lN_and]
            exact h33
          have n9 : nrT h bsp i k trl y = false := by unfold nrT; rw [t9]; rfl
          have k9 := ih (y + 1) (by omega) (by omega) (fun j hj => by rcases Nat.lt_or_ge j y with g | g; exact iv1 j g; rw [show j = y by omega]; exact n9)
          rw [Nat.shiftRight_succ, ← lN_shr s9] at k9
          exact k9
        · refine aw_aload_n C dX2_isNear_36 (i := 0) rfl rfl ?_
          refine aw_get (k := 7) C dX2_isNear_37 fl_X2_9 (by decide) rfl rfl ?_
          refine aw_iload C dX2_isNear_40 rfl ?_
          refine aw_iald (k := 42) C dX2_isNear_42 (by decide) (rfl) (rfl) (by omega) (by decide) (rfl) ?_
          refine aw_aload_n C dX2_isNear_43 (i := 0) rfl rfl ?_
          refine aw_get (k := 7) C dX2_isNear_44 fl_X2_23 (by decide) rfl rfl ?_
          refine aw_iload_n C dX2_isNear_47 (i := 1) rfl rfl ?_
          refine aw_iload C dX2_isNear_48 rfl ?_
          refine aw_V2i (k := 5) C dX2_isNear_50 cv_X2_81 (by decide) rfl rfl rfl (cb_heightOf hI (by omega) (by omega)) ⟨Nat.le_of_ble_eq_true rfl, Nat.le_of_ble_eq_true rfl⟩ (Nat.le_of_ble_eq_true rfl) ?_
          rw [hH k hk y (by omega)]
          refine aw_isub C dX2_isNear_53 ?_
          refine aw_abs C dX2_isNear_54 ca_X2_84 (Nat.le_of_ble_eq_true rfl) (Nat.le_of_ble_eq_true rfl) (Nat.le_of_ble_eq_true rfl) ?_
          rw [abs_dst (hT y (by omega)) (sm_hgt hO (by omega) hs hs2 (by omega))]
          refine aw_aload_n C dX2_isNear_57 (i := 0) rfl rfl ?_
          refine aw_get (k := 7) C dX2_isNear_58 fl_X2_19 (by decide) rfl rfl ?_
          refine aw_iconst C dX2_isNear_61 ki_1 ?_
          refine aw_V1i (k := 3) C dX2_isNear_62 cv_X2_89 (by decide) rfl rfl rfl (cb_limitOf hI (by omega)) ⟨Nat.le_of_ble_eq_true rfl, Nat.le_of_ble_eq_true rfl⟩ (Nat.le_of_ble_eq_true rfl) ?_
          rw [hA 41 (by omega)]
          refine aw_icmp_ge (tgt := 70) C dX2_isNear_65 (by decide) (fun h65 => ?_) (fun h65 => ?_)
          · refine aw_lload_n C dX2_isNear_70 (i := 2) rfl rfl ?_
            refine aw_iconst C dX2_isNear_71 ki_1 ?_
            refine aw_lushr C dX2_isNear_72 rfl ?_
            refine aw_lstore_n (lv' := [(2, _), (0, _), (1, _), (4, _)]) C dX2_isNear_73 (i := 2) rfl (Nat.le_of_ble_eq_true rfl) rfl ?_
            refine aw_iinc_n (lv' := [(2, _), (0, _), (1, _), (4, _)]) C dX2_isNear_74 rfl ki_1 (Nat.le_of_ble_eq_true rfl) rfl ?_
            refine aw_goto (tgt := 10) C dX2_isNear_77 (by decide) ?_
            have n9 : nrT h bsp i k trl y = false := by unfold nrT; rw [decide_eq_false (i_nlt h65), Bool.and_false]
            have k9 := ih (y + 1) (by omega) (by omega) (fun j hj => by rcases Nat.lt_or_ge j y with g | g; exact iv1 j g; rw [show j = y by omega]; exact n9)
            rw [Nat.shiftRight_succ, ← lN_shr s9] at k9
            exact k9
          · refine aw_iconst C dX2_isNear_68 ki_1 ?_
            refine aw_zret C hr dX2_isNear_69 (by decide) ?_
            have t9 : clsB h bsp i k y = true := by
              rw [← clN_tb (by omega)]
              cases hv : (clN h bsp i k).testBit y with
              | true => rfl
              | false => exact absurd (show lg_cmp _ (lN 0) = 0 from by
                  refine (lN_and _ _).symm ▸ (lN_0 (Nat.lt_of_le_of_lt Nat.and_le_left s9)).mpr (sh_1.mpr hv)) h33
            exact PI.mk (bi_t (anyB_t.mpr ⟨y, by omega, by unfold nrT; rw [t9, decide_eq_true (i_lt h65)]; rfl⟩)) rfl
set_option maxRecDepth 20000 in
/-- isNear -/
theorem cb_isNear {l : Launch} {D : va_G} {cy : Nat → ClassId} {z : Nat → Nat} {q : Nat → Nat} (hI : wI 49 q) {tl dsp dwi dat bsp bwi pnx phd vkn : Nat} {dff lbl lsh lpk : Int32} {lett : Nat → Nat} {num lim now : Nat → Int32} {prw plr hgr : Nat → Nat → Int32} {bk bd wio wys trl : Nat → Int32} {clr : Nat → Int64} {tld tie fst las saw : Nat → Int32} {i k : Nat} (hk : k < bwi) {h : Nat → Int32} (hC : clr k = lN (clN h bsp i k)) (hO : hOK h bwi) (hP : vPl plr h bsp bwi) (hH : vHg hgr h bsp bwi) (hA : agr now h bwi) (hT : ∀ y, y ≤ bsp → sml (trl y)) (hs : 8 ≤ bsp) (hs2 : bsp ≤ 40) (hw : bwi ≤ 8) : Ct l yX2_isNear cX2_isNear 5 (some .boolean) 1 32 D cy z 49 q [.ref (q 7), .int (nI k)] (bwC cy q tl dsp dwi dat bsp bwi pnx phd vkn dff lbl lsh lpk lett num lim now prw plr hgr bk bd wio wys trl clr tld tie fst las saw) (PI (bi (anyB (nrT h bsp i k trl) (bsp + 1))) (bwC cy q tl dsp dwi dat bsp bwi pnx phd vkn dff lbl lsh lpk lett num lim now prw plr hgr bk bd wio wys trl clr tld tie fst las saw)) := by
  refine Ct.of (own := RX2) (by decide) rfl hI (Nat.le_of_ble_eq_true rfl) ?_
  intro p e s m args below meth c C hr
  refine aw_lv (lv' := [(0, .ref (q 7)), (1, .int (nI k))]) (fun x hx => hx) ?_
  refine aw_aload_n C dX2_isNear_0 (i := 0) rfl rfl ?_
  refine aw_get (k := 7) C dX2_isNear_1 fl_X2_15 (by decide) rfl rfl ?_
  refine aw_iload_n C dX2_isNear_4 (i := 1) rfl rfl ?_
  refine aw_lald (k := 43) C dX2_isNear_5 (by decide) rfl (rfl) (by omega) (by decide) (hC) ?_
  refine aw_lstore_n (lv' := [(2, _), (0, _), (1, _)]) C dX2_isNear_6 (i := 2) rfl (Nat.le_of_ble_eq_true rfl) rfl ?_
  refine aw_iconst C dX2_isNear_7 ki_0 ?_
  refine aw_istore (lv' := [(2, _), (0, _), (1, _), (4, _)]) C dX2_isNear_8 (Nat.le_of_ble_eq_true rfl) rfl ?_
  exact cb_isNear_l hI C hr hk hO hP hH hA hT hs hs2 hw (bsp + 2) 0 (by omega) (by omega) (fun j hj => absurd hj (Nat.not_lt_zero j))
set_option maxRecDepth 20000 in
/-- isMutual -/
theorem cb_isMutual {l : Launch} {D : va_G} {cy : Nat → ClassId} {z : Nat → Nat} {q : Nat → Nat} (hI : wI 49 q) {tl dsp dwi dat bsp bwi pnx phd vkn : Nat} {dff lbl lsh lpk : Int32} {lett : Nat → Nat} {num lim now : Nat → Int32} {prw plr hgr : Nat → Nat → Int32} {bk bd wio wys trl : Nat → Int32} {clr : Nat → Int64} {tld tie fst las saw : Nat → Int32} {i k : Nat} (hi : i < bwi) (hk : k < bwi) {h : Nat → Int32} (hL : lbl = blA h bsp i bwi) (hO : hOK h bwi) (hP : vPl plr h bsp bwi) (hH : vHg hgr h bsp bwi) (hA : agr now h bwi) (hs : 8 ≤ bsp) (hs2 : bsp ≤ 40) (hw : bwi ≤ 8) : Ct l yX2_isMutual cX2_isMutual 3 (some .boolean) 3 86 D cy z 49 q [.ref (q 7), .int (nI i), .int (nI k)] (bwC cy q tl dsp dwi dat bsp bwi pnx phd vkn dff lbl lsh lpk lett num lim now prw plr hgr bk bd wio wys trl clr tld tie fst las saw) (PI (bi (pr8 h bsp i k && wyG h bsp k i trl)) (bwC cy q tl dsp dwi dat bsp bwi pnx phd vkn dff lbl lsh lpk lett num lim now prw plr hgr bk bd wio wys trl clr tld tie fst las saw)) := by
  refine Ct.of (own := RX2) (by decide) rfl hI (Nat.le_of_ble_eq_true rfl) ?_
  intro p e s m args below meth c C hr
  refine aw_lv (lv' := [(0, .ref (q 7)), (1, .int (nI i)), (2, .int (nI k))]) (fun x hx => hx) ?_
  refine aw_aload_n C dX2_isMutual_0 (i := 0) rfl rfl ?_
  refine aw_get (k := 7) C dX2_isMutual_1 fl_X2_37 (by decide) rfl rfl ?_
  refine aw_iconst C dX2_isMutual_4 ki_1 ?_
  refine aw_iload_n C dX2_isMutual_5 (i := 2) rfl rfl ?_
  refine aw_ishl C dX2_isMutual_6 ?_
  refine aw_iand C dX2_isMutual_7 ?_
  refine aw_if_eq (tgt := 31) C dX2_isMutual_8 (by decide) (fun h8 => ?_) (fun h8 => ?_)
  · refine aw_iconst C dX2_isMutual_31 ki_0 ?_
    refine aw_zret C hr dX2_isMutual_32 (by decide) ?_
    have q9 : pr8 h bsp i k = false := by
      have hl9 := mkS_lt (pr8 h bsp i) bwi
      have hp9 := pw8 hw
      rw [hL, bl_mk bwi hw] at h8
      have b9 := (bt_tb _ (show mkS (pr8 h bsp i) bwi < 256 by omega) k (by omega)).2.2
      rw [mkS_tb _ _ _ hk] at b9
      exact b9.mp h8
    exact PI.mk (bi_f (by rw [q9]; rfl)) rfl
  · refine aw_aload_n C dX2_isMutual_11 (i := 0) rfl rfl ?_
    refine aw_get (k := 7) C dX2_isMutual_12 fl_X2_23 (by decide) rfl rfl ?_
    refine aw_iload_n C dX2_isMutual_15 (i := 1) rfl rfl ?_
    refine aw_aload_n C dX2_isMutual_16 (i := 0) rfl rfl ?_
    refine aw_get (k := 7) C dX2_isMutual_17 fl_X2_9 (by decide) rfl rfl ?_
    refine aw_iload_n C dX2_isMutual_20 (i := 2) rfl rfl ?_
    refine aw_V3i (k := 5) C dX2_isMutual_21 cv_X2_92 (by decide) rfl rfl rfl (cb_isInTheWay hI (by omega) rfl (by omega) (by omega) hO hP hH hA hs hs2 hw) ⟨Nat.le_of_ble_eq_true rfl, Nat.le_of_ble_eq_true rfl⟩ (Nat.le_of_ble_eq_true rfl) ?_
    refine aw_if_eq_b (tgt := 31) C dX2_isMutual_24 (by decide) (fun h24 => ?_) (fun h24 => ?_)
    · refine aw_iconst C dX2_isMutual_31 ki_0 ?_
      refine aw_zret C hr dX2_isMutual_32 (by decide) ?_
      have q9 : pr8 h bsp i k = true := by
        have hl9 := mkS_lt (pr8 h bsp i) bwi
        have hp9 := pw8 hw
        rw [hL, bl_mk bwi hw] at h8
        have b9 := (bt_tb _ (show mkS (pr8 h bsp i) bwi < 256 by omega) k (by omega)).2.2
        rw [mkS_tb _ _ _ hk] at b9
        cases hv : pr8 h bsp i k with
        | true => rfl
        | false => exact absurd (b9.mpr hv) h8
      exact PI.mk (bi_f (by rw [q9, h24]; rfl)) rfl
    · refine aw_iconst C dX2_isMutual_27 ki_1 ?_
      refine aw_goto (tgt := 32) C dX2_isMutual_28 (by decide) ?_
      refine aw_zret C hr dX2_isMutual_32 (by decide) ?_
      have q9 : pr8 h bsp i k = true := by
        have hl9 := mkS_lt (pr8 h bsp i) bwi
        have hp9 := pw8 hw
        rw [hL, bl_mk bwi hw] at h8
        have b9 := (bt_tb _ (show mkS (pr8 h bsp i) bwi < 256 by omega) k (by omega)).2.2
        rw [mkS_tb _ _ _ hk] at b9
        cases hv : pr8 h bsp i k with
        | true => rfl
        | false => exact absurd (b9.mpr hv) h8
      exact PI.mk (bi_t (by rw [q9, h24]; rfl)) rfl
set_option maxRecDepth 20000 in
/-- mends, its loop -/
theorem cb_mends_l {l : Launch} {D : va_G} {cy : Nat → ClassId} {z : Nat → Nat} {q : Nat → Nat} {p : Program} {e : Env} {s : State} {m : MethodId} {args : Array Value} {below : List Frame} {meth : Method} {c : Code} (hI : wI 49 q) (C : Cx p s m args meth c cX2_mends 5 RX2 D cy z 49 q) (hr : meth.sig.returnType = (some .boolean)) {tl dsp dwi dat bsp bwi pnx phd vkn : Nat} {dff lbl lsh lpk : Int32} {lett : Nat → Nat} {num lim now : Nat → Int32} {prw plr hgr : Nat → Nat → Int32} {bk bd wio wys trl : Nat → Int32} {clr : Nat → Int64} {tld tie fst las saw : Nat → Int32} {i t : Nat} (hi : i < bwi) (ht : t ≤ 2) {h : Nat → Int32} (hL : lbl = blA h bsp i bwi) (hO : hOK h bwi) (hP : vPl plr h bsp bwi) (hH : vHg hgr h bsp bwi) (hA : agr now h bwi) (hC : ∀ k, k < bwi → clr k = lN (clN h bsp i k)) (hs : 8 ≤ bsp) (hs2 : bsp ≤ 40) (hw : bwi ≤ 8) {v : Nat} (hG : ∀ y, y ≤ bsp → trl y = hgt (hqs h i (nI t) (nI v)) bsp i y) (hv1 : 1 ≤ v) (hv2 : v ≤ 40) : ∀ (d : Nat) (k : Nat), bwi - k < d → (k ≤ bwi) → (∀ j, j < k → wlP (hqs h i (nI t) (nI v)) bsp i j = true) → AW p l e { frames := 4, cells := 0, slots := 0, locals := 108 } s m args below meth c D 49 q 5 (MQ below (Qg D 49 q (PX (fun x g => x = bi (tryB h bsp bwi i (nI t) (nI v)) ∧ ∃ r9 s9 p9, g = (bwC cy q tl dsp dwi dat bsp bwi pnx phd vkn dff lbl s9 p9 lett num lim now prw plr hgr bk bd wio wys r9 clr tld tie fst las saw) ∧ (tryB h bsp bwi i (nI t) (nI v) = true → s9 = nI t ∧ p9 = (nI v)))) (wA 49 q s.heap.size)) args s 0 0 (wA 49 q s.heap.size)) (bwC cy q tl dsp dwi dat bsp bwi pnx phd vkn dff lbl lsh lpk lett num lim now prw plr hgr bk bd wio wys trl clr tld tie fst las saw) [(0, .ref (q 7)), (1, .int (nI i)), (2, .int (nI t)), (3, .int (nI v)), (4, .int (nI k))] 30 [] := by
  intro d
  induction d with
  | zero => intro k hd; exact absurd hd (Nat.not_lt_zero _)
  | succ d ih =>
    intro k hd iv0 iv1
    refine aw_iload C dX2_mends_30 rfl ?_
    refine aw_aload_n C dX2_mends_32 (i := 0) rfl rfl ?_
    refine aw_get (k := 7) C dX2_mends_33 fl_X2_19 (by decide) rfl rfl ?_
    refine aw_get (k := 3) C dX2_mends_36 fl_X2_54 (by decide) rfl rfl ?_
    refine aw_icmp_ge_n (tgt := 75) C dX2_mends_39 (by decide) (by omega) (by omega) (fun h39 => ?_) (fun h39 => ?_)
    · refine aw_aload_n C dX2_mends_75 (i := 0) rfl rfl ?_
      refine aw_iload_n C dX2_mends_76 (i := 2) rfl rfl ?_
      refine aw_put (k := 7) C dX2_mends_77 fp_X2_75 (by decide) rfl rfl rfl (Nat.le_of_ble_eq_true rfl) bw_p_lsh ?_
      refine aw_aload_n C dX2_mends_80 (i := 0) rfl rfl ?_
      refine aw_iload_n C dX2_mends_81 (i := 3) rfl rfl ?_
      refine aw_put (k := 7) C dX2_mends_82 fp_X2_78 (by decide) rfl rfl rfl (Nat.le_of_ble_eq_true rfl) bw_p_lpk ?_
      refine aw_iconst C dX2_mends_85 ki_1 ?_
      refine aw_zret C hr dX2_mends_86 (by decide) ?_
      have f9 : tryB h bsp bwi i (nI t) (nI v) = true := by
        unfold tryB welB
        rw [Bool.and_eq_true, allB_t]
        exact ⟨inB_t (nI_le hv1 (by omega)) (nI_le hv2 (by omega)), fun j hj => iv1 j (by omega)⟩
      exact ⟨_, rfl, bi_t f9, _, _, _, rfl, fun _ => ⟨rfl, rfl⟩⟩
    · refine aw_iload C dX2_mends_42 rfl ?_
      refine aw_iload_n C dX2_mends_44 (i := 1) rfl rfl ?_
      refine aw_icmp_eq_n (tgt := 69) C dX2_mends_45 (by decide) (by omega) (by omega) (fun h45 => ?_) (fun h45 => ?_)
      · refine aw_iinc_n (lv' := [(0, _), (1, _), (2, _), (3, _), (4, _)]) C dX2_mends_69 rfl ki_1 (Nat.le_of_ble_eq_true rfl) rfl ?_
        refine aw_goto (tgt := 30) C dX2_mends_72 (by decide) ?_
        refine ih (k + 1) (by omega) (by omega) (fun j hj => ?_)
        rcases Nat.lt_or_ge j k with g | g
        · exact iv1 j g
        · rw [show j = k by omega]
          unfold wlP
          rw [decide_eq_true h45]
          rfl
      · refine aw_aload_n C dX2_mends_48 (i := 0) rfl rfl ?_
        refine aw_iload C dX2_mends_49 rfl ?_
        refine aw_V1i (k := 7) C dX2_mends_51 cv_X2_67 (by decide) rfl rfl rfl (cb_isNear hI (by omega) (hC k (by omega)) hO hP hH hA (fun y hy => by rw [hG y hy]; exact sm_hgt (hq_ok hO hi hw ht hv1 hv2) hi hs hs2 hy) hs hs2 hw) ⟨Nat.le_of_ble_eq_true rfl, Nat.le_of_ble_eq_true rfl⟩ (Nat.le_of_ble_eq_true rfl) ?_
        refine aw_if_ne_b (tgt := 67) C dX2_mends_54 (by decide) (fun h54 => ?_) (fun h54 => ?_)
        · refine aw_iconst C dX2_mends_67 ki_0 ?_
          refine aw_zret C hr dX2_mends_68 (by decide) ?_
          have f9 : tryB h bsp bwi i (nI t) (nI v) = false := by
            unfold tryB welB
            rw [← Bool.not_eq_true, Bool.and_eq_true, allB_t]
            intro a9
            have b9 := a9.2 k (by omega)
            rw [hq_wl (by omega) h45 hG] at b9
            unfold badT at b9
            rw [h54] at b9
            simp at b9
          exact ⟨_, rfl, bi_f f9, _, _, _, rfl, fun a9 => by rw [f9] at a9; cases a9⟩
        · refine aw_aload_n C dX2_mends_57 (i := 0) rfl rfl ?_
          refine aw_iload_n C dX2_mends_58 (i := 1) rfl rfl ?_
          refine aw_iload C dX2_mends_59 rfl ?_
          refine aw_V2i (k := 7) C dX2_mends_61 cv_X2_71 (by decide) rfl rfl rfl (cb_isMutual hI hi (by omega) hL hO hP hH hA hs hs2 hw) ⟨Nat.le_of_ble_eq_true rfl, Nat.le_of_ble_eq_true rfl⟩ (Nat.le_of_ble_eq_true rfl) ?_
          refine aw_if_eq_b (tgt := 69) C dX2_mends_64 (by decide) (fun h64 => ?_) (fun h64 => ?_)
          · refine aw_iinc_n (lv' := [(0, _), (1, _), (2, _), (3, _), (4, _)]) C dX2_mends_69 rfl ki_1 (Nat.le_of_ble_eq_true rfl) rfl ?_
            refine aw_goto (tgt := 30) C dX2_mends_72 (by decide) ?_
            refine ih (k + 1) (by omega) (by omega) (fun j hj => ?_)
            rcases Nat.lt_or_ge j k with g | g
            · exact iv1 j g
            · rw [show j = k by omega]
              rw [hq_wl (by omega) h45 hG]
              unfold badT
              rw [h54, h64]
              rfl
          · refine aw_iconst C dX2_mends_67 ki_0 ?_
            refine aw_zret C hr dX2_mends_68 (by decide) ?_
            have f9 : tryB h bsp bwi i (nI t) (nI v) = false := by
              unfold tryB welB
              rw [← Bool.not_eq_true, Bool.and_eq_true, allB_t]
              intro a9
              have b9 := a9.2 k (by omega)
              rw [hq_wl (by omega) h45 hG] at b9
              unfold badT at b9
              rw [h54, h64] at b9
              simp at b9
            exact ⟨_, rfl, bi_f f9, _, _, _, rfl, fun a9 => by rw [f9] at a9; cases a9⟩
set_option maxRecDepth 20000 in
/-- mends -/
theorem cb_mends {l : Launch} {D : va_G} {cy : Nat → ClassId} {z : Nat → Nat} {q : Nat → Nat} (hI : wI 49 q) {tl dsp dwi dat bsp bwi pnx phd vkn : Nat} {dff lbl lsh lpk : Int32} {lett : Nat → Nat} {num lim now : Nat → Int32} {prw plr hgr : Nat → Nat → Int32} {bk bd wio wys trl : Nat → Int32} {clr : Nat → Int64} {tld tie fst las saw : Nat → Int32} {pk : Int32} {i t : Nat} (hi : i < bwi) (ht : t ≤ 2) {h : Nat → Int32} (hL : lbl = blA h bsp i bwi) (hO : hOK h bwi) (hP : vPl plr h bsp bwi) (hH : vHg hgr h bsp bwi) (hA : agr now h bwi) (hC : ∀ k, k < bwi → clr k = lN (clN h bsp i k)) (hs : 8 ≤ bsp) (hs2 : bsp ≤ 40) (hw : bwi ≤ 8) : Ct l yX2_mends cX2_mends 5 (some .boolean) 4 108 D cy z 49 q [.ref (q 7), .int (nI i), .int (nI t), .int pk] (bwC cy q tl dsp dwi dat bsp bwi pnx phd vkn dff lbl lsh lpk lett num lim now prw plr hgr bk bd wio wys trl clr tld tie fst las saw) (PX (fun x g => x = bi (tryB h bsp bwi i (nI t) pk) ∧ ∃ r9 s9 p9, g = (bwC cy q tl dsp dwi dat bsp bwi pnx phd vkn dff lbl s9 p9 lett num lim now prw plr hgr bk bd wio wys r9 clr tld tie fst las saw) ∧ (tryB h bsp bwi i (nI t) pk = true → s9 = nI t ∧ p9 = pk))) := by
  refine Ct.of (own := RX2) (by decide) rfl hI (Nat.le_of_ble_eq_true rfl) ?_
  intro p e s m args below meth c C hr
  refine aw_lv (lv' := [(0, .ref (q 7)), (1, .int (nI i)), (2, .int (nI t)), (3, .int pk)]) (fun x hx => hx) ?_
  refine aw_iload_n C dX2_mends_0 (i := 3) rfl rfl ?_
  refine aw_iconst C dX2_mends_1 ki_1 ?_
  refine aw_icmp_lt (tgt := 11) C dX2_mends_2 (by decide) (fun h2 => ?_) (fun h2 => ?_)
  · refine aw_iconst C dX2_mends_11 ki_0 ?_
    refine aw_zret C hr dX2_mends_12 (by decide) ?_
    have f9 : tryB h bsp bwi i (nI t) pk = false := by
      unfold tryB
      rw [inB_f1 h2]
      rfl
    exact ⟨_, rfl, bi_f f9, _, _, _, rfl, fun a9 => by rw [f9] at a9; cases a9⟩
  · refine aw_iload_n C dX2_mends_5 (i := 3) rfl rfl ?_
    refine aw_bipush C dX2_mends_6 kb_40 ?_
    refine aw_icmp_le (tgt := 13) C dX2_mends_8 (by decide) (fun h8 => ?_) (fun h8 => ?_)
    · obtain ⟨v, hv9, rfl⟩ := nI_of (x := pk) (i_nlt (by have := i_le h2; rw [Int32.le_iff_toInt_le] at this ⊢; exact Int.le_trans (by decide) this))
      have hv1 : 1 ≤ v := (nI_leI (by omega) hv9).mp (i_le h2)
      have hv2 : v ≤ 40 := (nI_leI hv9 (by omega)).mp h8
      refine aw_aload_n C dX2_mends_13 (i := 0) rfl rfl ?_
      refine aw_get (k := 7) C dX2_mends_14 fl_X2_23 (by decide) rfl rfl ?_
      refine aw_aload_n C dX2_mends_17 (i := 0) rfl rfl ?_
      refine aw_get (k := 7) C dX2_mends_18 fl_X2_9 (by decide) rfl rfl ?_
      refine aw_iload_n C dX2_mends_21 (i := 1) rfl rfl ?_
      refine aw_iload_n C dX2_mends_22 (i := 2) rfl rfl ?_
      refine aw_iload_n C dX2_mends_23 (i := 3) rfl rfl ?_
      refine aw_V4v (k := 5) C dX2_mends_24 cv_X2_63 (by decide) rfl rfl rfl (cb_fillHeightst hI (by omega) hs hs2) ⟨Nat.le_of_ble_eq_true rfl, Nat.le_of_ble_eq_true rfl⟩ (Nat.le_of_ble_eq_true rfl) ?_
      refine aw_iconst C dX2_mends_27 ki_0 ?_
      refine aw_istore (lv' := [(0, _), (1, _), (2, _), (3, _), (4, _)]) C dX2_mends_28 (Nat.le_of_ble_eq_true rfl) rfl ?_
      refine cb_mends_l (now := now) hI C hr hi ht hL hO hP hH hA hC hs hs2 hw (fun y hy => ?_) hv1 hv2 (bwi + 1) 0 (by omega) (by omega) (fun j hj => absurd hj (Nat.not_lt_zero j))
      rw [cpG_lt (by omega), hq_hgi]
      show hg _ _ _ bsp y = _
      rw [agr_w hA hi (by omega)]
    · refine aw_iconst C dX2_mends_11 ki_0 ?_
      refine aw_zret C hr dX2_mends_12 (by decide) ?_
      have f9 : tryB h bsp bwi i (nI t) pk = false := by
        unfold tryB
        rw [inB_f2 (i_lt h8)]
        rfl
      exact ⟨_, rfl, bi_f f9, _, _, _, rfl, fun a9 => by rw [f9] at a9; cases a9⟩
theorem try_s {h : Nat → Int32} {S n i t : Nat} {pk : Int32} (h1 : tryB h S n i (nI t) pk = true) : ∃ v, 1 ≤ v ∧ v ≤ 40 ∧ pk = nI v ∧ c1 h S n i (nI t) pk = some (nI 100 * nI t + nI v) := by
  have h2 := h1
  unfold tryB at h2
  rw [Bool.and_eq_true] at h2
  obtain ⟨a1, a2⟩ := inB_iff.mp h2.1
  obtain ⟨v, hv, rfl⟩ := nI_of (x := pk) (i_nlt (by rw [Int32.le_iff_toInt_le] at a1 ⊢; exact Int.le_trans (by decide) a1))
  refine ⟨v, (nI_leI (by omega) hv).mp a1, (nI_leI hv (by omega)).mp a2, rfl, ?_⟩
  unfold c1
  rw [if_pos h1]
theorem try_n {h : Nat → Int32} {S n i : Nat} {sh pk : Int32} (h1 : tryB h S n i sh pk = false) : c1 h S n i sh pk = none := by
  unfold c1
  rw [if_neg (by rw [h1]; decide)]
theorem cF_1 {h : Nat → Int32} {S n i p0 b : Nat} {sh x : Int32} (h1 : c1 h S n i sh (nI p0 - nI b) = some x) : cF h S n i p0 b sh = some x := by
  unfold cF
  rw [h1]
theorem cF_2 {h : Nat → Int32} {S n i p0 b : Nat} {sh : Int32} (h1 : c1 h S n i sh (nI p0 - nI b) = none) : cF h S n i p0 b sh = c1 h S n i sh (nI (p0 + b)) := by
  unfold cF
  rw [h1, nI_add]
def inO (h : Nat → Int32) (S n i p0 t b : Nat) : Nat → Option Int32 := fun turn => cF h S n i p0 b (nI (sT t turn))
def ouO (h : Nat → Int32) (S n i p0 t : Nat) : Nat → Option Int32 := fun b => oN (inO h S n i p0 t b) 3
theorem lp_some {h : Nat → Int32} {S n i p0 t b u : Nat} {x : Int32} (hp : h (5 * i + 4) = nI p0) (ht : h (5 * i + 3) = nI t) (h2 : t ≤ 2) (hb : b < 40) (h0 : oN (ouO h S n i p0 t) b = none) (hu : u < 3) (h1 : oN (inO h S n i p0 t b) u = none) (hx : cF h S n i p0 b (nI (sT t u)) = some x) : lpO h S n i = some x := by
  rw [lp_eq hp ht h2]
  exact oN_t hb h0 (oN_t (g := inO h S n i p0 t b) hu h1 hx)
theorem lp_none {h : Nat → Int32} {S n i p0 t : Nat} (hp : h (5 * i + 4) = nI p0) (ht : h (5 * i + 3) = nI t) (h2 : t ≤ 2) (h0 : oN (ouO h S n i p0 t) 40 = none) : lpO h S n i = none := by
  rw [lp_eq hp ht h2]
  exact h0
set_option maxRecDepth 20000 in
/-- find, its loop -/
theorem cb_find_i {l : Launch} {D : va_G} {cy : Nat → ClassId} {z : Nat → Nat} {q : Nat → Nat} {p : Program} {e : Env} {s : State} {m : MethodId} {args : Array Value} {below : List Frame} {meth : Method} {c : Code} (hI : wI 49 q) (C : Cx p s m args meth c cX2_find 7 RX2 D cy z 49 q) (hr : meth.sig.returnType = (some .boolean)) {tl dsp dwi dat bsp bwi pnx phd : Nat} {dff lbl : Int32} {lett : Nat → Nat} {num lim now : Nat → Int32} {prw plr hgr : Nat → Nat → Int32} {bk bd wio wys : Nat → Int32} {clr : Nat → Int64} {tld tie fst las saw : Nat → Int32} {i t p0 : Nat} (hi : i < bwi) (ht : t ≤ 2) (hp0 : 1 ≤ p0) (hp1 : p0 ≤ 40) {h : Nat → Int32} (hL : lbl = blA h bsp i bwi) (hO : hOK h bwi) (hP : vPl plr h bsp bwi) (hH : vHg hgr h bsp bwi) (hA : agr now h bwi) (hC : ∀ k, k < bwi → clr k = lN (clN h bsp i k)) (e3 : h (5 * i + 3) = nI t) (e4 : h (5 * i + 4) = nI p0) (hb9 : vBk bk bd h bsp bwi) (hs : 8 ≤ bsp) (hs2 : bsp ≤ 40) (hw : bwi ≤ 8) {b : Nat} (hb : b < 40) (jv1 : oN (ouO h bsp bwi i p0 t) b = none) (K : ∀ lsh lpk trl, oN (inO h bsp bwi i p0 t b) 3 = none → AW p l e { frames := 5, cells := 0, slots := 0, locals := 132 } s m args below meth c D 49 q 7 (MQ below (Qg D 49 q (PX (fun x g => ∃ b8 b9 l9 s9 p9 r9 c9, g = (bwC cy q tl dsp dwi dat bsp bwi pnx phd 1 dff l9 s9 p9 lett num lim now prw plr hgr b8 b9 wio wys r9 c9 tld tie fst las saw) ∧ vBk b8 b9 h bsp bwi ∧ ((x = nI 0 ∧ lpO h bsp bwi i = none) ∨ (x = nI 1 ∧ ∃ t v, t ≤ 2 ∧ 1 ≤ v ∧ v ≤ 40 ∧ s9 = nI t ∧ p9 = nI v ∧ lpO h bsp bwi i = some (nI 100 * nI t + nI v))))) (wA 49 q s.heap.size)) args s 0 0 (wA 49 q s.heap.size)) (bwC cy q tl dsp dwi dat bsp bwi pnx phd 1 dff lbl lsh lpk lett num lim now prw plr hgr bk bd wio wys trl clr tld tie fst las saw) [(0, .ref (q 7)), (1, .int (nI i)), (2, .int (nI t)), (3, .int (nI p0)), (4, .int (nI b)), (5, .int (nI 3))] 100 []) : ∀ (d : Nat) (u : Nat) (lsh : Int32) (lpk : Int32) (trl : Nat → Int32), 3 - u < d → (u ≤ 3) → (oN (inO h bsp bwi i p0 t b) u = none) → AW p l e { frames := 5, cells := 0, slots := 0, locals := 132 } s m args below meth c D 49 q 7 (MQ below (Qg D 49 q (PX (fun x g => ∃ b8 b9 l9 s9 p9 r9 c9, g = (bwC cy q tl dsp dwi dat bsp bwi pnx phd 1 dff l9 s9 p9 lett num lim now prw plr hgr b8 b9 wio wys r9 c9 tld tie fst las saw) ∧ vBk b8 b9 h bsp bwi ∧ ((x = nI 0 ∧ lpO h bsp bwi i = none) ∨ (x = nI 1 ∧ ∃ t v, t ≤ 2 ∧ 1 ≤ v ∧ v ≤ 40 ∧ s9 = nI t ∧ p9 = nI v ∧ lpO h bsp bwi i = some (nI 100 * nI t + nI v))))) (wA 49 q s.heap.size)) args s 0 0 (wA 49 q s.heap.size)) (bwC cy q tl dsp dwi dat bsp bwi pnx phd 1 dff lbl lsh lpk lett num lim now prw plr hgr bk bd wio wys trl clr tld tie fst las saw) [(0, .ref (q 7)), (1, .int (nI i)), (2, .int (nI t)), (3, .int (nI p0)), (4, .int (nI b)), (5, .int (nI u))] 50 [] := by
  intro d
  induction d with
  | zero => intro u lsh lpk trl hd; exact absurd hd (Nat.not_lt_zero _)
  | succ d ih =>
    intro u lsh lpk trl hd iv0 iv1
    refine aw_iload C dX2_find_50 rfl ?_
    refine aw_iconst C dX2_find_52 ki_3 ?_
    refine aw_icmp_ge_n (tgt := 100) C dX2_find_53 (by decide) (by omega) (by omega) (fun h53 => ?_) (fun h53 => ?_)
    · obtain rfl : u = 3 := by omega
      exact K _ _ _ iv1
    · refine aw_iload_n C dX2_find_56 (i := 2) rfl rfl ?_
      refine aw_iload C dX2_find_57 rfl ?_
      refine aw_S2i C dX2_find_59 cs_X2_47 (cb_shapeAtTurn hI ht (by omega)) ⟨Nat.le_of_ble_eq_true rfl, Nat.le_of_ble_eq_true rfl⟩ (Nat.le_of_ble_eq_true rfl) ?_
      refine aw_istore (lv' := [(0, _), (1, _), (2, _), (3, _), (4, _), (5, _), (6, _)]) C dX2_find_62 (Nat.le_of_ble_eq_true rfl) rfl ?_
      refine aw_aload_n C dX2_find_64 (i := 0) rfl rfl ?_
      refine aw_iload_n C dX2_find_65 (i := 1) rfl rfl ?_
      refine aw_iload C dX2_find_66 rfl ?_
      refine aw_iload_n C dX2_find_68 (i := 3) rfl rfl ?_
      refine aw_iload C dX2_find_69 rfl ?_
      refine aw_isub C dX2_find_71 ?_
      refine aw_V3x (k := 7) C dX2_find_72 cv_X2_50 (by decide) rfl rfl rfl (cb_mends hI hi (sT_le ht (by omega)) hL hO hP hH hA hC hs hs2 hw) ⟨Nat.le_of_ble_eq_true rfl, Nat.le_of_ble_eq_true rfl⟩ (Nat.le_of_ble_eq_true rfl) (fun x g hp9 => ?_)
      obtain ⟨rfl, r9, s9, p9, rfl, m9⟩ := hp9
      refine aw_if_ne_b (tgt := 92) C dX2_find_75 (by decide) (fun h75 => ?_) (fun h75 => ?_)
      · refine aw_iconst C dX2_find_92 ki_1 ?_
        refine aw_zret C hr dX2_find_93 (by decide) ?_
        obtain ⟨v9, w1, w2, w3, y9⟩ := try_s h75
        obtain ⟨x1, x2⟩ := m9 h75
        exact ⟨_, rfl, _, _, _, _, _, _, _, rfl, hb9, Or.inr ⟨rfl, _, v9, sT_le ht (by omega), w1, w2, x1, x2.trans w3, lp_some e4 e3 ht (by omega) jv1 (by omega) iv1 (cF_1 y9)⟩⟩
      · refine aw_aload_n C dX2_find_78 (i := 0) rfl rfl ?_
        refine aw_iload_n C dX2_find_79 (i := 1) rfl rfl ?_
        refine aw_iload C dX2_find_80 rfl ?_
        refine aw_iload_n C dX2_find_82 (i := 3) rfl rfl ?_
        refine aw_iload C dX2_find_83 rfl ?_
        refine aw_iadd_n C dX2_find_85 ?_
        refine aw_V3x (k := 7) C dX2_find_86 cv_X2_50 (by decide) rfl rfl rfl (cb_mends hI hi (sT_le ht (by omega)) hL hO hP hH hA hC hs hs2 hw) ⟨Nat.le_of_ble_eq_true rfl, Nat.le_of_ble_eq_true rfl⟩ (Nat.le_of_ble_eq_true rfl) (fun x g hp9 => ?_)
        obtain ⟨rfl, r8, s8, p8, rfl, m8⟩ := hp9
        refine aw_if_eq_b (tgt := 94) C dX2_find_89 (by decide) (fun h89 => ?_) (fun h89 => ?_)
        · refine aw_iinc_n (lv' := [(0, _), (1, _), (2, _), (3, _), (4, _), (5, _), (6, _)]) C dX2_find_94 rfl ki_1 (Nat.le_of_ble_eq_true rfl) rfl ?_
          refine aw_goto (tgt := 50) C dX2_find_97 (by decide) ?_
          refine aw_take 6 (lv' := [(0, _), (1, _), (2, _), (3, _), (4, _), (5, _)]) rfl ?_
          exact ih (u + 1) _ _ _ (by omega) (by omega) ((oN_s iv1).trans ((cF_2 (try_n h75)).trans (try_n h89)))
        · refine aw_iconst C dX2_find_92 ki_1 ?_
          refine aw_zret C hr dX2_find_93 (by decide) ?_
          obtain ⟨v9, w1, w2, w3, y9⟩ := try_s h89
          obtain ⟨x1, x2⟩ := m8 h89
          exact ⟨_, rfl, _, _, _, _, _, _, _, rfl, hb9, Or.inr ⟨rfl, _, v9, sT_le ht (by omega), w1, w2, x1, x2.trans w3, lp_some e4 e3 ht (by omega) jv1 (by omega) iv1 ((cF_2 (try_n h75)).trans y9)⟩⟩
set_option maxRecDepth 20000 in
/-- find, its loop -/
theorem cb_find_o {l : Launch} {D : va_G} {cy : Nat → ClassId} {z : Nat → Nat} {q : Nat → Nat} {p : Program} {e : Env} {s : State} {m : MethodId} {args : Array Value} {below : List Frame} {meth : Method} {c : Code} (hI : wI 49 q) (C : Cx p s m args meth c cX2_find 7 RX2 D cy z 49 q) (hr : meth.sig.returnType = (some .boolean)) {tl dsp dwi dat bsp bwi pnx phd : Nat} {dff lbl : Int32} {lett : Nat → Nat} {num lim now : Nat → Int32} {prw plr hgr : Nat → Nat → Int32} {bk bd wio wys : Nat → Int32} {clr : Nat → Int64} {tld tie fst las saw : Nat → Int32} {i t p0 : Nat} (hi : i < bwi) (ht : t ≤ 2) (hp0 : 1 ≤ p0) (hp1 : p0 ≤ 40) {h : Nat → Int32} (hL : lbl = blA h bsp i bwi) (hO : hOK h bwi) (hP : vPl plr h bsp bwi) (hH : vHg hgr h bsp bwi) (hA : agr now h bwi) (hC : ∀ k, k < bwi → clr k = lN (clN h bsp i k)) (e3 : h (5 * i + 3) = nI t) (e4 : h (5 * i + 4) = nI p0) (hb9 : vBk bk bd h bsp bwi) (hs : 8 ≤ bsp) (hs2 : bsp ≤ 40) (hw : bwi ≤ 8) : ∀ (d : Nat) (b : Nat) (lsh : Int32) (lpk : Int32) (trl : Nat → Int32), 40 - b < d → (b ≤ 40) → (oN (ouO h bsp bwi i p0 t) b = none) → AW p l e { frames := 5, cells := 0, slots := 0, locals := 132 } s m args below meth c D 49 q 7 (MQ below (Qg D 49 q (PX (fun x g => ∃ b8 b9 l9 s9 p9 r9 c9, g = (bwC cy q tl dsp dwi dat bsp bwi pnx phd 1 dff l9 s9 p9 lett num lim now prw plr hgr b8 b9 wio wys r9 c9 tld tie fst las saw) ∧ vBk b8 b9 h bsp bwi ∧ ((x = nI 0 ∧ lpO h bsp bwi i = none) ∨ (x = nI 1 ∧ ∃ t v, t ≤ 2 ∧ 1 ≤ v ∧ v ≤ 40 ∧ s9 = nI t ∧ p9 = nI v ∧ lpO h bsp bwi i = some (nI 100 * nI t + nI v))))) (wA 49 q s.heap.size)) args s 0 0 (wA 49 q s.heap.size)) (bwC cy q tl dsp dwi dat bsp bwi pnx phd 1 dff lbl lsh lpk lett num lim now prw plr hgr bk bd wio wys trl clr tld tie fst las saw) [(0, .ref (q 7)), (1, .int (nI i)), (2, .int (nI t)), (3, .int (nI p0)), (4, .int (nI b))] 40 [] := by
  intro d
  induction d with
  | zero => intro b lsh lpk trl hd; exact absurd hd (Nat.not_lt_zero _)
  | succ d ih =>
    intro b lsh lpk trl hd iv0 iv1
    refine aw_iload C dX2_find_40 rfl ?_
    refine aw_bipush C dX2_find_42 kb_40 ?_
    refine aw_icmp_ge_n (tgt := 106) C dX2_find_44 (by decide) (by omega) (by omega) (fun h44 => ?_) (fun h44 => ?_)
    · refine aw_iconst C dX2_find_106 ki_0 ?_
      refine aw_zret C hr dX2_find_107 (by decide) ?_
      obtain rfl : b = 40 := by omega
      exact ⟨_, rfl, _, _, _, _, _, _, _, rfl, hb9, Or.inl ⟨rfl, lp_none e4 e3 ht iv1⟩⟩
    · refine aw_iconst C dX2_find_47 ki_0 ?_
      refine aw_istore (lv' := [(0, _), (1, _), (2, _), (3, _), (4, _), (5, _)]) C dX2_find_48 (Nat.le_of_ble_eq_true rfl) rfl ?_
      refine cb_find_i hI C hr hi ht hp0 hp1 hL hO hP hH hA hC e3 e4 hb9 hs hs2 hw (by omega) iv1 (fun lsh lpk trl i9 => ?_) 4 0 _ _ _ (by omega) (by omega) rfl
      refine aw_iinc_n (lv' := [(0, _), (1, _), (2, _), (3, _), (4, _), (5, _)]) C dX2_find_100 rfl ki_1 (Nat.le_of_ble_eq_true rfl) rfl ?_
      refine aw_goto (tgt := 40) C dX2_find_103 (by decide) ?_
      refine aw_take 5 (lv' := [(0, _), (1, _), (2, _), (3, _), (4, _)]) rfl ?_
      exact ih (b + 1) _ _ _ (by omega) (by omega) ((oN_s iv1).trans i9)
set_option maxRecDepth 20000 in
/-- find -/
theorem cb_find {l : Launch} {D : va_G} {cy : Nat → ClassId} {z : Nat → Nat} {q : Nat → Nat} (hI : wI 49 q) {tl dsp dwi dat bsp bwi pnx phd vkn : Nat} {dff lbl lsh lpk : Int32} {lett : Nat → Nat} {num lim now : Nat → Int32} {prw plr hgr : Nat → Nat → Int32} {bk bd wio wys trl : Nat → Int32} {clr : Nat → Int64} {tld tie fst las saw : Nat → Int32} {i : Nat} (hi : i < bwi) {h : Nat → Int32} (hO : hOK h bwi) (hP : vPl plr h bsp bwi) (hH : vHg hgr h bsp bwi) (hA : agr now h bwi) (hB : vkn = 0 ∨ (vkn = 1 ∧ vBk bk bd h bsp bwi)) (hs : 8 ≤ bsp) (hs2 : bsp ≤ 40) (hw : bwi ≤ 8) : Ct l yX2_find cX2_find 7 (some .boolean) 5 132 D cy z 49 q [.ref (q 7), .int (nI i)] (bwC cy q tl dsp dwi dat bsp bwi pnx phd vkn dff lbl lsh lpk lett num lim now prw plr hgr bk bd wio wys trl clr tld tie fst las saw) (PX (fun x g => ∃ b8 b9 l9 s9 p9 r9 c9, g = (bwC cy q tl dsp dwi dat bsp bwi pnx phd 1 dff l9 s9 p9 lett num lim now prw plr hgr b8 b9 wio wys r9 c9 tld tie fst las saw) ∧ vBk b8 b9 h bsp bwi ∧ ((x = nI 0 ∧ lpO h bsp bwi i = none) ∨ (x = nI 1 ∧ ∃ t v, t ≤ 2 ∧ 1 ≤ v ∧ v ≤ 40 ∧ s9 = nI t ∧ p9 = nI v ∧ lpO h bsp bwi i = some (nI 100 * nI t + nI v))))) := by
  refine Ct.of (own := RX2) (by decide) rfl hI (Nat.le_of_ble_eq_true rfl) ?_
  intro p e s m args below meth c C hr
  refine aw_lv (lv' := [(0, .ref (q 7)), (1, .int (nI i))]) (fun x hx => hx) ?_
  obtain ⟨-, -, -, ⟨t, ht, e3⟩, ⟨p0, hp0, hp1, e4⟩⟩ := hO.1 i hi
  refine aw_aload_n C dX2_find_0 (i := 0) rfl rfl ?_
  refine aw_iload_n C dX2_find_1 (i := 1) rfl rfl ?_
  refine aw_V1y (k := 7) C dX2_find_2 cv_X2_27 (by decide) rfl rfl rfl (cb_findCloseRows hI hi hO hP hH hA hs hs2 hw) ⟨Nat.le_of_ble_eq_true rfl, Nat.le_of_ble_eq_true rfl⟩ (Nat.le_of_ble_eq_true rfl) (fun g hp9 => ?_)
  obtain ⟨c9, rfl, hC⟩ := hp9
  refine aw_aload_n C dX2_find_5 (i := 0) rfl rfl ?_
  refine aw_aload_n C dX2_find_6 (i := 0) rfl rfl ?_
  refine aw_get (k := 7) C dX2_find_7 fl_X2_23 (by decide) rfl rfl ?_
  refine aw_iload_n C dX2_find_10 (i := 1) rfl rfl ?_
  refine aw_V1x (k := 5) C dX2_find_11 cv_X2_31 (by decide) rfl rfl rfl (cb_blockersOf hI hi hO hP hH hA hB hs hs2 hw) ⟨Nat.le_of_ble_eq_true rfl, Nat.le_of_ble_eq_true rfl⟩ (Nat.le_of_ble_eq_true rfl) (fun x g hp9 => ?_)
  obtain ⟨rfl, b8, b9, rfl, hb9⟩ := hp9
  refine aw_put (k := 7) C dX2_find_14 fp_X2_37 (by decide) rfl rfl rfl (Nat.le_of_ble_eq_true rfl) bw_p_lbl ?_
  refine aw_aload_n C dX2_find_17 (i := 0) rfl rfl ?_
  refine aw_get (k := 7) C dX2_find_18 fl_X2_19 (by decide) rfl rfl ?_
  refine aw_iload_n C dX2_find_21 (i := 1) rfl rfl ?_
  refine aw_iconst C dX2_find_22 ki_3 ?_
  refine aw_V2i (k := 3) C dX2_find_23 cv_X2_41 (by decide) rfl rfl rfl (cb_numberOf hI (by omega)) ⟨Nat.le_of_ble_eq_true rfl, Nat.le_of_ble_eq_true rfl⟩ (Nat.le_of_ble_eq_true rfl) ?_
  rw [agr_w hA hi (by omega), e3]
  refine aw_istore_n (lv' := [(0, _), (1, _), (2, _)]) C dX2_find_26 (i := 2) rfl (Nat.le_of_ble_eq_true rfl) rfl ?_
  refine aw_aload_n C dX2_find_27 (i := 0) rfl rfl ?_
  refine aw_get (k := 7) C dX2_find_28 fl_X2_19 (by decide) rfl rfl ?_
  refine aw_iload_n C dX2_find_31 (i := 1) rfl rfl ?_
  refine aw_iconst C dX2_find_32 ki_4 ?_
  refine aw_V2i (k := 3) C dX2_find_33 cv_X2_41 (by decide) rfl rfl rfl (cb_numberOf hI (by omega)) ⟨Nat.le_of_ble_eq_true rfl, Nat.le_of_ble_eq_true rfl⟩ (Nat.le_of_ble_eq_true rfl) ?_
  rw [agr_w hA hi (by omega), e4]
  refine aw_istore_n (lv' := [(0, _), (1, _), (2, _), (3, _)]) C dX2_find_36 (i := 3) rfl (Nat.le_of_ble_eq_true rfl) rfl ?_
  refine aw_iconst C dX2_find_37 ki_0 ?_
  refine aw_istore (lv' := [(0, _), (1, _), (2, _), (3, _), (4, _)]) C dX2_find_38 (Nat.le_of_ble_eq_true rfl) rfl ?_
  exact cb_find_o hI C hr hi ht hp0 hp1 rfl hO hP hH hA hC e3 e4 hb9 hs hs2 hw 41 0 _ _ _ (by omega) (by omega) rfl
