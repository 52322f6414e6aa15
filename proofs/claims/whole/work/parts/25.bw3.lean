-- BondedWires: the view
theorem up_id {α : Type} (f : Nat → α) (k : Nat) : va_up f k (f k) = f := by
  funext j
  unfold va_up
  split
  · next e => rw [e]
  · rfl
set_option maxRecDepth 20000 in
/-- cut -/
theorem cb_cut {l : Launch} {D : va_G} {cy : Nat → ClassId} {z : Nat → Nat} {q : Nat → Nat} {N : Nat} (hI : wI N q) {f : wS} {w p0 : Int32} : Ct l yX7_cut cX7_cut 2 (some .int) 0 0 D cy z N q [.int w, .int p0] f (PI (cutI w p0) f) := by
  refine Ct.of (own := RX7) (by decide) rfl hI (Nat.le_of_ble_eq_true rfl) ?_
  intro p e s m args below meth c C hr
  refine aw_lv (lv' := [(0, .int w), (1, .int p0)]) (fun x hx => hx) ?_
  refine aw_iload_n C dX7_cut_0 (i := 1) rfl rfl ?_
  refine aw_if_le (tgt := 10) C dX7_cut_1 (by decide) (fun h1 => ?_) (fun h1 => ?_)
  · refine aw_iconst C dX7_cut_10 ki_0 ?_
    refine aw_iret C hr dX7_cut_11 ?_
    exact PI.mk (if_pos h1).symm rfl
  · refine aw_iload_n C dX7_cut_4 (i := 0) rfl rfl ?_
    refine aw_iload_n C dX7_cut_5 (i := 1) rfl rfl ?_
    refine aw_idiv C dX7_cut_6 (fun e9 => h1 (by rw [e9]; exact Int32.le_refl 0)) ?_
    refine aw_goto (tgt := 11) C dX7_cut_7 (by decide) ?_
    refine aw_iret C hr dX7_cut_11 ?_
    exact PI.mk (if_neg h1).symm rfl
set_option maxRecDepth 20000 in
/-- heightBetween -/
theorem cb_heightBetween {l : Launch} {D : va_G} {cy : Nat → ClassId} {z : Nat → Nat} {q : Nat → Nat} (hI : wI 49 q) {tl dsp dwi dat bsp bwi pnx phd vkn : Nat} {dff lbl lsh lpk : Int32} {lett : Nat → Nat} {num lim now : Nat → Int32} {prw plr hgr : Nat → Nat → Int32} {bk bd wio wys trl : Nat → Int32} {clr : Nat → Int64} {tld tie fst las saw : Nat → Int32} {b t p0 : Int32} {y : Nat} (hy0 : 0 < y) (hy : y < bsp) (hs : 8 ≤ bsp) (hs2 : bsp ≤ 40) : Ct l yX7_heightBetween cX7_heightBetween 7 (some .int) 1 21 D cy z 49 q [.ref (q 5), .int b, .int t, .int p0, .int (nI y)] (bwC cy q tl dsp dwi dat bsp bwi pnx phd vkn dff lbl lsh lpk lett num lim now prw plr hgr bk bd wio wys trl clr tld tie fst las saw) (PI (hg b t p0 bsp y) (bwC cy q tl dsp dwi dat bsp bwi pnx phd vkn dff lbl lsh lpk lett num lim now prw plr hgr bk bd wio wys trl clr tld tie fst las saw)) := by
  refine Ct.of (own := RX7) (by decide) rfl hI (Nat.le_of_ble_eq_true rfl) ?_
  intro p e s m args below meth c C hr
  refine aw_lv (lv' := [(0, .ref (q 5)), (1, .int b), (2, .int t), (3, .int p0), (4, .int (nI y))]) (fun x hx => hx) ?_
  refine aw_aload_n C dX7_heightBetween_0 (i := 0) rfl rfl ?_
  refine aw_get (k := 5) C dX7_heightBetween_1 fl_X7_26 (by decide) rfl rfl ?_
  refine aw_get (k := 3) C dX7_heightBetween_4 fl_X7_56 (by decide) rfl rfl ?_
  refine aw_istore (lv' := [(0, _), (1, _), (2, _), (3, _), (4, _), (5, _)]) C dX7_heightBetween_7 (Nat.le_of_ble_eq_true rfl) rfl ?_
  refine aw_iload_n C dX7_heightBetween_9 (i := 2) rfl rfl ?_
  refine aw_if_ne (tgt := 17) C dX7_heightBetween_10 (by decide) (fun h10 => ?_) (fun h10 => ?_)
  · refine aw_iload_n C dX7_heightBetween_17 (i := 2) rfl rfl ?_
    refine aw_iconst C dX7_heightBetween_18 ki_1 ?_
    refine aw_icmp_ne (tgt := 56) C dX7_heightBetween_19 (by decide) (fun h19 => ?_) (fun h19 => ?_)
    · refine aw_iload C dX7_heightBetween_56 rfl ?_
      refine aw_iconst C dX7_heightBetween_58 ki_4 ?_
      refine aw_S2i C dX7_heightBetween_59 cs_X7_63 (cb_cut hI) ⟨Nat.le_of_ble_eq_true rfl, Nat.le_of_ble_eq_true rfl⟩ (Nat.le_of_ble_eq_true rfl) ?_
      rw [cut_n (by omega) (by omega), pk_div (by omega) (by omega) (by omega)]
      refine aw_istore (lv' := [(0, _), (1, _), (2, _), (3, _), (4, _), (5, _), (6, _)]) C dX7_heightBetween_62 (Nat.le_of_ble_eq_true rfl) rfl ?_
      refine aw_iload C dX7_heightBetween_64 rfl ?_
      refine aw_iload C dX7_heightBetween_66 rfl ?_
      refine aw_icmp_ge_n (tgt := 83) C dX7_heightBetween_68 (by decide) (by omega) (by omega) (fun h68 => ?_) (fun h68 => ?_)
      · refine aw_iload_n C dX7_heightBetween_83 (i := 1) rfl rfl ?_
        refine aw_iload_n C dX7_heightBetween_84 (i := 3) rfl rfl ?_
        refine aw_iadd C dX7_heightBetween_85 ?_
        refine aw_iload C dX7_heightBetween_86 rfl ?_
        refine aw_iload C dX7_heightBetween_88 rfl ?_
        refine aw_isub_n C dX7_heightBetween_90 (by omega) ?_
        refine aw_imul C dX7_heightBetween_91 ?_
        refine aw_iload C dX7_heightBetween_92 rfl ?_
        refine aw_iload C dX7_heightBetween_94 rfl ?_
        refine aw_isub_n C dX7_heightBetween_96 (by omega) ?_
        refine aw_S2i C dX7_heightBetween_97 cs_X7_63 (cb_cut hI) ⟨Nat.le_of_ble_eq_true rfl, Nat.le_of_ble_eq_true rfl⟩ (Nat.le_of_ble_eq_true rfl) ?_
        rw [cut_n (by omega) (by omega)]
        refine aw_iret C hr dX7_heightBetween_100 ?_
        exact PI.mk (by unfold hg; rw [if_neg (Nat.ne_of_gt hy0), if_neg (Nat.ne_of_lt hy), if_neg h10, if_neg h19, if_neg (Nat.not_lt.mpr h68)]) rfl
      · refine aw_iload_n C dX7_heightBetween_71 (i := 1) rfl rfl ?_
        refine aw_iload_n C dX7_heightBetween_72 (i := 3) rfl rfl ?_
        refine aw_iload C dX7_heightBetween_73 rfl ?_
        refine aw_imul C dX7_heightBetween_75 ?_
        refine aw_iload C dX7_heightBetween_76 rfl ?_
        refine aw_S2i C dX7_heightBetween_78 cs_X7_63 (cb_cut hI) ⟨Nat.le_of_ble_eq_true rfl, Nat.le_of_ble_eq_true rfl⟩ (Nat.le_of_ble_eq_true rfl) ?_
        rw [cut_n (by omega) (by omega)]
        refine aw_iadd C dX7_heightBetween_81 ?_
        refine aw_iret C hr dX7_heightBetween_82 ?_
        exact PI.mk (by unfold hg; rw [if_neg (Nat.ne_of_gt hy0), if_neg (Nat.ne_of_lt hy), if_neg h10, if_neg h19, if_pos h68]) rfl
    · refine aw_iload_n C dX7_heightBetween_22 (i := 1) rfl rfl ?_
      refine aw_iload C dX7_heightBetween_23 rfl ?_
      refine aw_iload C dX7_heightBetween_25 rfl ?_
      refine aw_isub_n C dX7_heightBetween_27 (by omega) ?_
      refine aw_imul C dX7_heightBetween_28 ?_
      refine aw_iload C dX7_heightBetween_29 rfl ?_
      refine aw_S2i C dX7_heightBetween_31 cs_X7_63 (cb_cut hI) ⟨Nat.le_of_ble_eq_true rfl, Nat.le_of_ble_eq_true rfl⟩ (Nat.le_of_ble_eq_true rfl) ?_
      rw [cut_n (by omega) (by omega)]
      refine aw_iconst C dX7_heightBetween_34 ki_4 ?_
      refine aw_iload_n C dX7_heightBetween_35 (i := 3) rfl rfl ?_
      refine aw_imul C dX7_heightBetween_36 ?_
      refine aw_iload C dX7_heightBetween_37 rfl ?_
      refine aw_imul C dX7_heightBetween_39 ?_
      refine aw_iload C dX7_heightBetween_40 rfl ?_
      refine aw_iload C dX7_heightBetween_42 rfl ?_
      refine aw_isub_n C dX7_heightBetween_44 (by omega) ?_
      refine aw_imul C dX7_heightBetween_45 ?_
      refine aw_iload C dX7_heightBetween_46 rfl ?_
      refine aw_iload C dX7_heightBetween_48 rfl ?_
      refine aw_imul_n C dX7_heightBetween_50 ?_
      refine aw_S2i C dX7_heightBetween_51 cs_X7_63 (cb_cut hI) ⟨Nat.le_of_ble_eq_true rfl, Nat.le_of_ble_eq_true rfl⟩ (Nat.le_of_ble_eq_true rfl) ?_
      rw [cut_n (Nat.mul_pos (by omega) (by omega)) (by have := Nat.mul_le_mul hs2 hs2; omega)]
      refine aw_iadd C dX7_heightBetween_54 ?_
      refine aw_iret C hr dX7_heightBetween_55 ?_
      exact PI.mk (by unfold hg; rw [if_neg (Nat.ne_of_gt hy0), if_neg (Nat.ne_of_lt hy), if_neg h10, if_pos h19]) rfl
  · refine aw_iload_n C dX7_heightBetween_13 (i := 1) rfl rfl ?_
    refine aw_iload_n C dX7_heightBetween_14 (i := 3) rfl rfl ?_
    refine aw_iadd C dX7_heightBetween_15 ?_
    refine aw_iret C hr dX7_heightBetween_16 ?_
    exact PI.mk (by unfold hg; rw [if_neg (Nat.ne_of_gt hy0), if_neg (Nat.ne_of_lt hy), if_pos h10]) rfl
set_option maxRecDepth 20000 in
/-- fillPlaces, its loop -/
theorem cb_fillPlaces_l {l : Launch} {D : va_G} {cy : Nat → ClassId} {z : Nat → Nat} {q : Nat → Nat} {p : Program} {e : Env} {s : State} {m : MethodId} {args : Array Value} {below : List Frame} {meth : Method} {c : Code} (hI : wI 49 q) (C : Cx p s m args meth c cX7_fillPlaces 5 RX7 D cy z 49 q) (hr : meth.sig.returnType = none) {tl dsp dwi dat bsp bwi pnx phd vkn : Nat} {dff lbl lsh lpk : Int32} {lett : Nat → Nat} {num lim now : Nat → Int32} {prw plr hgr : Nat → Nat → Int32} {bk bd wio wys trl : Nat → Int32} {clr : Nat → Int64} {tld tie fst las saw : Nat → Int32} {i : Nat} (hi : i < 8) (hs2 : bsp ≤ 40) : ∀ (d : Nat) (y : Nat), bsp + 1 - y < d → (y ≤ bsp + 1) → AW p l e { frames := 1, cells := 0, slots := 0, locals := 22 } s m args below meth c D 49 q 5 (MQ below (Qg D 49 q (PV (bwC cy q tl dsp dwi dat bsp bwi pnx phd vkn dff lbl lsh lpk lett num lim now prw (va_up plr i (cpG (plX (now (i * 5 + 0) + now 43) (now (i * 5 + 2)) bsp) (plr i) (bsp + 1))) hgr bk bd wio wys trl clr tld tie fst las saw)) (wA 49 q s.heap.size)) args s 0 0 (wA 49 q s.heap.size)) (bwC cy q tl dsp dwi dat bsp bwi pnx phd vkn dff lbl lsh lpk lett num lim now prw (va_up plr i (cpG (plX (now (i * 5 + 0) + now 43) (now (i * 5 + 2)) bsp) (plr i) y)) hgr bk bd wio wys trl clr tld tie fst las saw) [(0, .ref (q 5)), (1, .int (nI i)), (2, .int (now (i * 5 + 0) + now 43)), (3, .int (now (i * 5 + 2))), (4, .int (nI y))] 31 [] := by
  intro d
  induction d with
  | zero => intro y hd; exact absurd hd (Nat.not_lt_zero _)
  | succ d ih =>
    intro y hd iv0
    refine aw_iload C dX7_fillPlaces_31 rfl ?_
    refine aw_aload_n C dX7_fillPlaces_33 (i := 0) rfl rfl ?_
    refine aw_get (k := 5) C dX7_fillPlaces_34 fl_X7_26 (by decide) rfl rfl ?_
    refine aw_get (k := 3) C dX7_fillPlaces_37 fl_X7_56 (by decide) rfl rfl ?_
    refine aw_icmp_gt_n (tgt := 75) C dX7_fillPlaces_40 (by decide) (by omega) (by omega) (fun h40 => ?_) (fun h40 => ?_)
    · refine aw_vret C hr dX7_fillPlaces_75 ?_
      obtain rfl : y = bsp + 1 := by omega
      exact ⟨rfl, rfl⟩
    · refine aw_aload_n C dX7_fillPlaces_43 (i := 0) rfl rfl ?_
      refine aw_get (k := 5) C dX7_fillPlaces_44 fl_X7_11 (by decide) rfl rfl ?_
      refine aw_iload_n C dX7_fillPlaces_47 (i := 1) rfl rfl ?_
      refine aw_aald (k := 20) (n := i) C dX7_fillPlaces_48 (by decide) rfl (rfl) (by omega) (by decide) rfl ?_
      refine aw_iload C dX7_fillPlaces_49 rfl ?_
      refine aw_iload_n C dX7_fillPlaces_51 (i := 2) rfl rfl ?_
      refine aw_aload_n C dX7_fillPlaces_52 (i := 0) rfl rfl ?_
      refine aw_get (k := 5) C dX7_fillPlaces_53 fl_X7_26 (by decide) rfl rfl ?_
      refine aw_get (k := 3) C dX7_fillPlaces_56 fl_X7_56 (by decide) rfl rfl ?_
      refine aw_iload C dX7_fillPlaces_59 rfl ?_
      refine aw_isub_n C dX7_fillPlaces_61 (by omega) ?_
      refine aw_imul C dX7_fillPlaces_62 ?_
      refine aw_iload_n C dX7_fillPlaces_63 (i := 3) rfl rfl ?_
      refine aw_iload C dX7_fillPlaces_64 rfl ?_
      refine aw_imul C dX7_fillPlaces_66 ?_
      refine aw_iadd C dX7_fillPlaces_67 ?_
      refine aw_iast (k := (21 + i)) C dX7_fillPlaces_68 (by omega) (bw_r_plr (by omega)) (rfl) (by omega) (by decide) (bw_u_plr (by omega)) ?_
      refine aw_iinc_n (lv' := [(0, _), (1, _), (2, _), (3, _), (4, _)]) C dX7_fillPlaces_69 rfl ki_1 (Nat.le_of_ble_eq_true rfl) rfl ?_
      refine aw_goto (tgt := 31) C dX7_fillPlaces_72 (by decide) ?_
      rw [va_up_self, bx_uu]
      have e9 := cpG_s (plX (now (i * 5 + 0) + now 43) (now (i * 5 + 2)) bsp) (plr i) y
      have k9 := ih (y + 1) (by omega) (by omega)
      rw [← e9] at k9
      exact k9
set_option maxRecDepth 20000 in
/-- fillPlaces -/
theorem cb_fillPlaces {l : Launch} {D : va_G} {cy : Nat → ClassId} {z : Nat → Nat} {q : Nat → Nat} (hI : wI 49 q) {tl dsp dwi dat bsp bwi pnx phd vkn : Nat} {dff lbl lsh lpk : Int32} {lett : Nat → Nat} {num lim now : Nat → Int32} {prw plr hgr : Nat → Nat → Int32} {bk bd wio wys trl : Nat → Int32} {clr : Nat → Int64} {tld tie fst las saw : Nat → Int32} {i : Nat} (hi : i < 8) (hs2 : bsp ≤ 40) : Ct l yX7_fillPlaces cX7_fillPlaces 5 none 1 22 D cy z 49 q [.ref (q 5), .int (nI i)] (bwC cy q tl dsp dwi dat bsp bwi pnx phd vkn dff lbl lsh lpk lett num lim now prw plr hgr bk bd wio wys trl clr tld tie fst las saw) (PV (bwC cy q tl dsp dwi dat bsp bwi pnx phd vkn dff lbl lsh lpk lett num lim now prw (va_up plr i (cpG (plX (now (i * 5 + 0) + now 43) (now (i * 5 + 2)) bsp) (plr i) (bsp + 1))) hgr bk bd wio wys trl clr tld tie fst las saw)) := by
  refine Ct.of (own := RX7) (by decide) rfl hI (Nat.le_of_ble_eq_true rfl) ?_
  intro p e s m args below meth c C hr
  refine aw_lv (lv' := [(0, .ref (q 5)), (1, .int (nI i))]) (fun x hx => hx) ?_
  refine aw_aload_n C dX7_fillPlaces_0 (i := 0) rfl rfl ?_
  refine aw_get (k := 5) C dX7_fillPlaces_1 fl_X7_26 (by decide) rfl rfl ?_
  refine aw_iload_n C dX7_fillPlaces_4 (i := 1) rfl rfl ?_
  refine aw_iconst C dX7_fillPlaces_5 ki_0 ?_
  refine aw_V2i (k := 3) C dX7_fillPlaces_6 cv_X7_40 (by decide) rfl rfl rfl (cb_numberOf hI (by omega)) ⟨Nat.le_of_ble_eq_true rfl, Nat.le_of_ble_eq_true rfl⟩ (Nat.le_of_ble_eq_true rfl) ?_
  refine aw_aload_n C dX7_fillPlaces_9 (i := 0) rfl rfl ?_
  refine aw_get (k := 5) C dX7_fillPlaces_10 fl_X7_26 (by decide) rfl rfl ?_
  refine aw_V0i (k := 3) C dX7_fillPlaces_13 cv_X7_52 (by decide) rfl rfl rfl (cb_shiftNow hI) ⟨Nat.le_of_ble_eq_true rfl, Nat.le_of_ble_eq_true rfl⟩ (Nat.le_of_ble_eq_true rfl) ?_
  refine aw_iadd C dX7_fillPlaces_16 ?_
  refine aw_istore_n (lv' := [(0, _), (1, _), (2, _)]) C dX7_fillPlaces_17 (i := 2) rfl (Nat.le_of_ble_eq_true rfl) rfl ?_
  refine aw_aload_n C dX7_fillPlaces_18 (i := 0) rfl rfl ?_
  refine aw_get (k := 5) C dX7_fillPlaces_19 fl_X7_26 (by decide) rfl rfl ?_
  refine aw_iload_n C dX7_fillPlaces_22 (i := 1) rfl rfl ?_
  refine aw_iconst C dX7_fillPlaces_23 ki_2 ?_
  refine aw_V2i (k := 3) C dX7_fillPlaces_24 cv_X7_40 (by decide) rfl rfl rfl (cb_numberOf hI (by omega)) ⟨Nat.le_of_ble_eq_true rfl, Nat.le_of_ble_eq_true rfl⟩ (Nat.le_of_ble_eq_true rfl) ?_
  refine aw_istore_n (lv' := [(0, _), (1, _), (2, _), (3, _)]) C dX7_fillPlaces_27 (i := 3) rfl (Nat.le_of_ble_eq_true rfl) rfl ?_
  refine aw_iconst C dX7_fillPlaces_28 ki_0 ?_
  refine aw_istore (lv' := [(0, _), (1, _), (2, _), (3, _), (4, _)]) C dX7_fillPlaces_29 (Nat.le_of_ble_eq_true rfl) rfl ?_
  refine aw_fq (f' := (bwC cy q tl dsp dwi dat bsp bwi pnx phd vkn dff lbl lsh lpk lett num lim now prw (va_up plr i (cpG (plX (now (i * 5 + 0) + now 43) (now (i * 5 + 2)) bsp) (plr i) 0)) hgr bk bd wio wys trl clr tld tie fst las saw)) (by rw [cpG_0, up_id]) ?_
  exact cb_fillPlaces_l hI C hr hi hs2 (bsp + 2) 0 (by omega) (by omega)
set_option maxRecDepth 20000 in
/-- fillHeights, its loop -/
theorem cb_fillHeightsh_l {l : Launch} {D : va_G} {cy : Nat → ClassId} {z : Nat → Nat} {q : Nat → Nat} {p : Program} {e : Env} {s : State} {m : MethodId} {args : Array Value} {below : List Frame} {meth : Method} {c : Code} (hI : wI 49 q) (C : Cx p s m args meth c cX7_fillHeights 7 RX7 D cy z 49 q) (hr : meth.sig.returnType = none) {tl dsp dwi dat bsp bwi pnx phd vkn : Nat} {dff lbl lsh lpk : Int32} {lett : Nat → Nat} {num lim now : Nat → Int32} {prw plr hgr : Nat → Nat → Int32} {bk bd wio wys trl : Nat → Int32} {clr : Nat → Int64} {tld tie fst las saw : Nat → Int32} {i : Nat} {t p0 : Int32} {j : Nat} (hj : j < 8) (hi : i < 8) (hs : 8 ≤ bsp) (hs2 : bsp ≤ 40) : ∀ (d : Nat) (y : Nat), bsp - y < d → (1 ≤ y ∧ y ≤ bsp) → AW p l e { frames := 2, cells := 0, slots := 0, locals := 47 } s m args below meth c D 49 q 7 (MQ below (Qg D 49 q (PV (bwC cy q tl dsp dwi dat bsp bwi pnx phd vkn dff lbl lsh lpk lett num lim now prw plr (va_up hgr j (cpG (fun y => hg (nI 10 * now (i * 5 + 1)) t p0 bsp y) (hgr j) (bsp + 1))) bk bd wio wys trl clr tld tie fst las saw)) (wA 49 q s.heap.size)) args s 0 0 (wA 49 q s.heap.size)) (bwC cy q tl dsp dwi dat bsp bwi pnx phd vkn dff lbl lsh lpk lett num lim now prw plr (va_up hgr j (cpG (fun y => hg (nI 10 * now (i * 5 + 1)) t p0 bsp y) (hgr j) y)) bk bd wio wys trl clr tld tie fst las saw) [(0, .ref (q 5)), (1, .ref (q (30 + j))), (2, .int (nI i)), (3, .int t), (4, .int p0), (5, .int (nI 10 * now (i * 5 + 1))), (6, .int (nI y))] 22 [] := by
  intro d
  induction d with
  | zero => intro y hd; exact absurd hd (Nat.not_lt_zero _)
  | succ d ih =>
    intro y hd iv0
    refine aw_iload C dX7_fillHeights_22 rfl ?_
    refine aw_aload_n C dX7_fillHeights_24 (i := 0) rfl rfl ?_
    refine aw_get (k := 5) C dX7_fillHeights_25 fl_X7_26 (by decide) rfl rfl ?_
    refine aw_get (k := 3) C dX7_fillHeights_28 fl_X7_56 (by decide) rfl rfl ?_
    refine aw_icmp_ge_n (tgt := 55) C dX7_fillHeights_31 (by decide) (by omega) (by omega) (fun h31 => ?_) (fun h31 => ?_)
    · refine aw_aload_n C dX7_fillHeights_55 (i := 1) rfl rfl ?_
      refine aw_aload_n C dX7_fillHeights_56 (i := 0) rfl rfl ?_
      refine aw_get (k := 5) C dX7_fillHeights_57 fl_X7_26 (by decide) rfl rfl ?_
      refine aw_get (k := 3) C dX7_fillHeights_60 fl_X7_56 (by decide) rfl rfl ?_
      refine aw_iconst C dX7_fillHeights_63 ki_0 ?_
      refine aw_iast (k := (30 + j)) C dX7_fillHeights_64 (by omega) (bw_r_hgr (by omega)) (rfl) (by omega) (by decide) (bw_u_hgr (by omega)) ?_
      refine aw_vret C hr dX7_fillHeights_65 ?_
      obtain rfl : y = bsp := by omega
      rw [va_up_self, bx_uu]
      have e9 := cpG_s (fun y => hg (nI 10 * now (i * 5 + 1)) t p0 bsp y) (hgr j) y
      have e8 : hg (nI 10 * now (i * 5 + 1)) t p0 y y = nI 0 := by unfold hg; rw [if_neg (by omega), if_pos rfl]
      rw [e8] at e9
      rw [e9]
      exact ⟨rfl, rfl⟩
    · refine aw_aload_n C dX7_fillHeights_34 (i := 1) rfl rfl ?_
      refine aw_iload C dX7_fillHeights_35 rfl ?_
      refine aw_aload_n C dX7_fillHeights_37 (i := 0) rfl rfl ?_
      refine aw_iload C dX7_fillHeights_38 rfl ?_
      refine aw_iload_n C dX7_fillHeights_40 (i := 3) rfl rfl ?_
      refine aw_iload C dX7_fillHeights_41 rfl ?_
      refine aw_iload C dX7_fillHeights_43 rfl ?_
      refine aw_V4i (k := 5) C dX7_fillHeights_45 cv_X7_59 (by decide) rfl rfl rfl (cb_heightBetween hI (by omega) (by omega) hs hs2) ⟨Nat.le_of_ble_eq_true rfl, Nat.le_of_ble_eq_true rfl⟩ (Nat.le_of_ble_eq_true rfl) ?_
      refine aw_iast (k := (30 + j)) C dX7_fillHeights_48 (by omega) (bw_r_hgr (by omega)) (rfl) (by omega) (by decide) (bw_u_hgr (by omega)) ?_
      refine aw_iinc_n (lv' := [(0, _), (1, _), (2, _), (3, _), (4, _), (5, _), (6, _)]) C dX7_fillHeights_49 rfl ki_1 (Nat.le_of_ble_eq_true rfl) rfl ?_
      refine aw_goto (tgt := 22) C dX7_fillHeights_52 (by decide) ?_
      rw [va_up_self, bx_uu]
      have e9 := cpG_s (fun y => hg (nI 10 * now (i * 5 + 1)) t p0 bsp y) (hgr j) y
      have k9 := ih (y + 1) (by omega) (by omega)
      rw [← e9] at k9
      exact k9
set_option maxRecDepth 20000 in
/-- fillHeights -/
theorem cb_fillHeightsh {l : Launch} {D : va_G} {cy : Nat → ClassId} {z : Nat → Nat} {q : Nat → Nat} (hI : wI 49 q) {tl dsp dwi dat bsp bwi pnx phd vkn : Nat} {dff lbl lsh lpk : Int32} {lett : Nat → Nat} {num lim now : Nat → Int32} {prw plr hgr : Nat → Nat → Int32} {bk bd wio wys trl : Nat → Int32} {clr : Nat → Int64} {tld tie fst las saw : Nat → Int32} {i : Nat} {t p0 : Int32} {j : Nat} (hj : j < 8) (hi : i < 8) (hs : 8 ≤ bsp) (hs2 : bsp ≤ 40) : Ct l yX7_fillHeights cX7_fillHeights 7 none 2 47 D cy z 49 q [.ref (q 5), .ref (q (30 + j)), .int (nI i), .int t, .int p0] (bwC cy q tl dsp dwi dat bsp bwi pnx phd vkn dff lbl lsh lpk lett num lim now prw plr hgr bk bd wio wys trl clr tld tie fst las saw) (PV (bwC cy q tl dsp dwi dat bsp bwi pnx phd vkn dff lbl lsh lpk lett num lim now prw plr (va_up hgr j (cpG (fun y => hg (nI 10 * now (i * 5 + 1)) t p0 bsp y) (hgr j) (bsp + 1))) bk bd wio wys trl clr tld tie fst las saw)) := by
  refine Ct.of (own := RX7) (by decide) rfl hI (Nat.le_of_ble_eq_true rfl) ?_
  intro p e s m args below meth c C hr
  refine aw_lv (lv' := [(0, .ref (q 5)), (1, .ref (q (30 + j))), (2, .int (nI i)), (3, .int t), (4, .int p0)]) (fun x hx => hx) ?_
  refine aw_bipush C dX7_fillHeights_0 kb_10 ?_
  refine aw_aload_n C dX7_fillHeights_2 (i := 0) rfl rfl ?_
  refine aw_get (k := 5) C dX7_fillHeights_3 fl_X7_26 (by decide) rfl rfl ?_
  refine aw_iload_n C dX7_fillHeights_6 (i := 2) rfl rfl ?_
  refine aw_iconst C dX7_fillHeights_7 ki_1 ?_
  refine aw_V2i (k := 3) C dX7_fillHeights_8 cv_X7_40 (by decide) rfl rfl rfl (cb_numberOf hI (by omega)) ⟨Nat.le_of_ble_eq_true rfl, Nat.le_of_ble_eq_true rfl⟩ (Nat.le_of_ble_eq_true rfl) ?_
  refine aw_imul C dX7_fillHeights_11 ?_
  refine aw_istore (lv' := [(0, _), (1, _), (2, _), (3, _), (4, _), (5, _)]) C dX7_fillHeights_12 (Nat.le_of_ble_eq_true rfl) rfl ?_
  refine aw_aload_n C dX7_fillHeights_14 (i := 1) rfl rfl ?_
  refine aw_iconst C dX7_fillHeights_15 ki_0 ?_
  refine aw_iload C dX7_fillHeights_16 rfl ?_
  refine aw_iast (k := (30 + j)) C dX7_fillHeights_18 (by omega) (bw_r_hgr (by omega)) (rfl) (by omega) (by decide) (bw_u_hgr (by omega)) ?_
  refine aw_iconst C dX7_fillHeights_19 ki_1 ?_
  refine aw_istore (lv' := [(0, _), (1, _), (2, _), (3, _), (4, _), (5, _), (6, _)]) C dX7_fillHeights_20 (Nat.le_of_ble_eq_true rfl) rfl ?_
  have e9 := cpG_s (fun y => hg (nI 10 * now (i * 5 + 1)) t p0 bsp y) (hgr j) 0
  rw [cpG_0] at e9
  have e8 : hg (nI 10 * now (i * 5 + 1)) t p0 bsp 0 = nI 10 * now (i * 5 + 1) := if_pos rfl
  have k9 := cb_fillHeightsh_l (l := l) (below := below) (e := e) (tl := tl) (dsp := dsp) (dwi := dwi) (dat := dat) (bsp := bsp) (bwi := bwi) (pnx := pnx) (phd := phd) (vkn := vkn) (dff := dff) (lbl := lbl) (lsh := lsh) (lpk := lpk) (lett := lett) (num := num) (lim := lim) (now := now) (prw := prw) (plr := plr) (hgr := hgr) (bk := bk) (bd := bd) (wio := wio) (wys := wys) (trl := trl) (clr := clr) (tld := tld) (tie := tie) (fst := fst) (las := las) (saw := saw) (i := i) (t := t) (p0 := p0) (j := j) hI C hr hj hi hs hs2 (bsp + 1) 1 (by omega) (by omega)
  rw [← e9, e8] at k9
  exact k9
set_option maxRecDepth 20000 in
/-- fillHeights, its loop -/
theorem cb_fillHeightst_l {l : Launch} {D : va_G} {cy : Nat → ClassId} {z : Nat → Nat} {q : Nat → Nat} {p : Program} {e : Env} {s : State} {m : MethodId} {args : Array Value} {below : List Frame} {meth : Method} {c : Code} (hI : wI 49 q) (C : Cx p s m args meth c cX7_fillHeights 7 RX7 D cy z 49 q) (hr : meth.sig.returnType = none) {tl dsp dwi dat bsp bwi pnx phd vkn : Nat} {dff lbl lsh lpk : Int32} {lett : Nat → Nat} {num lim now : Nat → Int32} {prw plr hgr : Nat → Nat → Int32} {bk bd wio wys trl : Nat → Int32} {clr : Nat → Int64} {tld tie fst las saw : Nat → Int32} {i : Nat} {t p0 : Int32} (hi : i < 8) (hs : 8 ≤ bsp) (hs2 : bsp ≤ 40) : ∀ (d : Nat) (y : Nat), bsp - y < d → (1 ≤ y ∧ y ≤ bsp) → AW p l e { frames := 2, cells := 0, slots := 0, locals := 47 } s m args below meth c D 49 q 7 (MQ below (Qg D 49 q (PV (bwC cy q tl dsp dwi dat bsp bwi pnx phd vkn dff lbl lsh lpk lett num lim now prw plr hgr bk bd wio wys (cpG (fun y => hg (nI 10 * now (i * 5 + 1)) t p0 bsp y) trl (bsp + 1)) clr tld tie fst las saw)) (wA 49 q s.heap.size)) args s 0 0 (wA 49 q s.heap.size)) (bwC cy q tl dsp dwi dat bsp bwi pnx phd vkn dff lbl lsh lpk lett num lim now prw plr hgr bk bd wio wys (cpG (fun y => hg (nI 10 * now (i * 5 + 1)) t p0 bsp y) trl y) clr tld tie fst las saw) [(0, .ref (q 5)), (1, .ref (q 42)), (2, .int (nI i)), (3, .int t), (4, .int p0), (5, .int (nI 10 * now (i * 5 + 1))), (6, .int (nI y))] 22 [] := by
  intro d
  induction d with
  | zero => intro y hd; exact absurd hd (Nat.not_lt_zero _)
  | succ d ih =>
    intro y hd iv0
    refine aw_iload C dX7_fillHeights_22 rfl ?_
    refine aw_aload_n C dX7_fillHeights_24 (i := 0) rfl rfl ?_
    refine aw_get (k := 5) C dX7_fillHeights_25 fl_X7_26 (by decide) rfl rfl ?_
    refine aw_get (k := 3) C dX7_fillHeights_28 fl_X7_56 (by decide) rfl rfl ?_
    refine aw_icmp_ge_n (tgt := 55) C dX7_fillHeights_31 (by decide) (by omega) (by omega) (fun h31 => ?_) (fun h31 => ?_)
    · refine aw_aload_n C dX7_fillHeights_55 (i := 1) rfl rfl ?_
      refine aw_aload_n C dX7_fillHeights_56 (i := 0) rfl rfl ?_
      refine aw_get (k := 5) C dX7_fillHeights_57 fl_X7_26 (by decide) rfl rfl ?_
      refine aw_get (k := 3) C dX7_fillHeights_60 fl_X7_56 (by decide) rfl rfl ?_
      refine aw_iconst C dX7_fillHeights_63 ki_0 ?_
      refine aw_iast (k := 42) C dX7_fillHeights_64 (by decide) (rfl) (rfl) (by omega) (by decide) (bw_a_trl) ?_
      refine aw_vret C hr dX7_fillHeights_65 ?_
      obtain rfl : y = bsp := by omega
      have e9 := cpG_s (fun y => hg (nI 10 * now (i * 5 + 1)) t p0 bsp y) trl y
      have e8 : hg (nI 10 * now (i * 5 + 1)) t p0 y y = nI 0 := by unfold hg; rw [if_neg (by omega), if_pos rfl]
      rw [e8] at e9
      rw [e9]
      exact ⟨rfl, rfl⟩
    · refine aw_aload_n C dX7_fillHeights_34 (i := 1) rfl rfl ?_
      refine aw_iload C dX7_fillHeights_35 rfl ?_
      refine aw_aload_n C dX7_fillHeights_37 (i := 0) rfl rfl ?_
      refine aw_iload C dX7_fillHeights_38 rfl ?_
      refine aw_iload_n C dX7_fillHeights_40 (i := 3) rfl rfl ?_
      refine aw_iload C dX7_fillHeights_41 rfl ?_
      refine aw_iload C dX7_fillHeights_43 rfl ?_
      refine aw_V4i (k := 5) C dX7_fillHeights_45 cv_X7_59 (by decide) rfl rfl rfl (cb_heightBetween hI (by omega) (by omega) hs hs2) ⟨Nat.le_of_ble_eq_true rfl, Nat.le_of_ble_eq_true rfl⟩ (Nat.le_of_ble_eq_true rfl) ?_
      refine aw_iast (k := 42) C dX7_fillHeights_48 (by decide) (rfl) (rfl) (by omega) (by decide) (bw_a_trl) ?_
      refine aw_iinc_n (lv' := [(0, _), (1, _), (2, _), (3, _), (4, _), (5, _), (6, _)]) C dX7_fillHeights_49 rfl ki_1 (Nat.le_of_ble_eq_true rfl) rfl ?_
      refine aw_goto (tgt := 22) C dX7_fillHeights_52 (by decide) ?_
      have e9 := cpG_s (fun y => hg (nI 10 * now (i * 5 + 1)) t p0 bsp y) trl y
      have k9 := ih (y + 1) (by omega) (by omega)
      rw [← e9] at k9
      exact k9
set_option maxRecDepth 20000 in
/-- fillHeights -/
theorem cb_fillHeightst {l : Launch} {D : va_G} {cy : Nat → ClassId} {z : Nat → Nat} {q : Nat → Nat} (hI : wI 49 q) {tl dsp dwi dat bsp bwi pnx phd vkn : Nat} {dff lbl lsh lpk : Int32} {lett : Nat → Nat} {num lim now : Nat → Int32} {prw plr hgr : Nat → Nat → Int32} {bk bd wio wys trl : Nat → Int32} {clr : Nat → Int64} {tld tie fst las saw : Nat → Int32} {i : Nat} {t p0 : Int32} (hi : i < 8) (hs : 8 ≤ bsp) (hs2 : bsp ≤ 40) : Ct l yX7_fillHeights cX7_fillHeights 7 none 2 47 D cy z 49 q [.ref (q 5), .ref (q 42), .int (nI i), .int t, .int p0] (bwC cy q tl dsp dwi dat bsp bwi pnx phd vkn dff lbl lsh lpk lett num lim now prw plr hgr bk bd wio wys trl clr tld tie fst las saw) (PV (bwC cy q tl dsp dwi dat bsp bwi pnx phd vkn dff lbl lsh lpk lett num lim now prw plr hgr bk bd wio wys (cpG (fun y => hg (nI 10 * now (i * 5 + 1)) t p0 bsp y) trl (bsp + 1)) clr tld tie fst las saw)) := by
  refine Ct.of (own := RX7) (by decide) rfl hI (Nat.le_of_ble_eq_true rfl) ?_
  intro p e s m args below meth c C hr
  refine aw_lv (lv' := [(0, .ref (q 5)), (1, .ref (q 42)), (2, .int (nI i)), (3, .int t), (4, .int p0)]) (fun x hx => hx) ?_
  refine aw_bipush C dX7_fillHeights_0 kb_10 ?_
  refine aw_aload_n C dX7_fillHeights_2 (i := 0) rfl rfl ?_
  refine aw_get (k := 5) C dX7_fillHeights_3 fl_X7_26 (by decide) rfl rfl ?_
  refine aw_iload_n C dX7_fillHeights_6 (i := 2) rfl rfl ?_
  refine aw_iconst C dX7_fillHeights_7 ki_1 ?_
  refine aw_V2i (k := 3) C dX7_fillHeights_8 cv_X7_40 (by decide) rfl rfl rfl (cb_numberOf hI (by omega)) ⟨Nat.le_of_ble_eq_true rfl, Nat.le_of_ble_eq_true rfl⟩ (Nat.le_of_ble_eq_true rfl) ?_
  refine aw_imul C dX7_fillHeights_11 ?_
  refine aw_istore (lv' := [(0, _), (1, _), (2, _), (3, _), (4, _), (5, _)]) C dX7_fillHeights_12 (Nat.le_of_ble_eq_true rfl) rfl ?_
  refine aw_aload_n C dX7_fillHeights_14 (i := 1) rfl rfl ?_
  refine aw_iconst C dX7_fillHeights_15 ki_0 ?_
  refine aw_iload C dX7_fillHeights_16 rfl ?_
  refine aw_iast (k := 42) C dX7_fillHeights_18 (by decide) (rfl) (rfl) (by omega) (by decide) (bw_a_trl) ?_
  refine aw_iconst C dX7_fillHeights_19 ki_1 ?_
  refine aw_istore (lv' := [(0, _), (1, _), (2, _), (3, _), (4, _), (5, _), (6, _)]) C dX7_fillHeights_20 (Nat.le_of_ble_eq_true rfl) rfl ?_
  have e9 := cpG_s (fun y => hg (nI 10 * now (i * 5 + 1)) t p0 bsp y) trl 0
  rw [cpG_0] at e9
  have e8 : hg (nI 10 * now (i * 5 + 1)) t p0 bsp 0 = nI 10 * now (i * 5 + 1) := if_pos rfl
  have k9 := cb_fillHeightst_l (l := l) (below := below) (e := e) (tl := tl) (dsp := dsp) (dwi := dwi) (dat := dat) (bsp := bsp) (bwi := bwi) (pnx := pnx) (phd := phd) (vkn := vkn) (dff := dff) (lbl := lbl) (lsh := lsh) (lpk := lpk) (lett := lett) (num := num) (lim := lim) (now := now) (prw := prw) (plr := plr) (hgr := hgr) (bk := bk) (bd := bd) (wio := wio) (wys := wys) (trl := trl) (clr := clr) (tld := tld) (tie := tie) (fst := fst) (las := las) (saw := saw) (i := i) (t := t) (p0 := p0) hI C hr hi hs hs2 (bsp + 1) 1 (by omega) (by omega)
  rw [← e9, e8] at k9
  exact k9
