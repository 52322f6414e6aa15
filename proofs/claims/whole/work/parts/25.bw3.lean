-- BondedWires: the view
theorem up_id {α : Type} (f : Nat → α) (k : Nat) : va_up f k (f k) = f := by
  funext j
  unfold va_up
  split
  · next e => rw [e]
  · rfl
theorem cntB_z {p : Nat → Bool} : ∀ {n : Nat}, (∀ j, j < n → p j = false) → cntB p n = 0
  | 0, _ => rfl
  | n + 1, h => by rw [cntB_n (h n (by omega)), cntB_z (fun j hj => h j (by omega))]
theorem fstB_s {p : Nat → Bool} {n k : Nat} (h : fstB p n = some k) : k < n ∧ p k = true := by
  induction n with
  | zero => cases h
  | succ n ih =>
    unfold fstB at h
    cases hf : fstB p n with
    | some j =>
      rw [hf] at h
      have := ih (by rw [hf]; exact h)
      exact ⟨by omega, this.2⟩
    | none =>
      rw [hf] at h
      by_cases hp : p n = true
      · simp [hp] at h
        subst h
        exact ⟨by omega, hp⟩
      · simp [hp] at h
theorem cntB_pos {p : Nat → Bool} {n k : Nat} (hk : k < n) (hp : p k = true) : 0 < cntB p n := by
  induction n with
  | zero => omega
  | succ n ih =>
    rcases Nat.lt_or_ge k n with g | g
    · have := ih g
      show 0 < cntB p n + _
      omega
    · obtain rfl : k = n := by omega
      rw [cntB_t hp]
      omega
theorem nrF_none {h : Nat → Int32} {S i k : Nat} (e : nrF h S i k = -4) (hS : S ≤ 40 := by omega) : nrC h S i k = 0 := by
  unfold nrC
  refine cntB_z (fun j hj => ?_)
  cases hp : nrA h S i k j with
  | false => rfl
  | true =>
    unfold nrF at e
    cases hf : fstB (nrA h S i k) (S + 1) with
    | some y =>
      rw [hf] at e
      have h1 := fstB_s hf
      exact absurd e (nI_m4 (by omega))
    | none =>
      exfalso
      have : ∀ n, fstB (nrA h S i k) n = none → ∀ j, j < n → nrA h S i k j = false := by
        intro n
        induction n with
        | zero => intro _ j hj; omega
        | succ n ih =>
          intro hn j hj
          unfold fstB at hn
          cases hq : fstB (nrA h S i k) n with
          | some y => rw [hq] at hn; cases hn
          | none =>
            rw [hq] at hn
            rcases Nat.lt_or_ge j n with g | g
            · exact ih hq j g
            · obtain rfl : j = n := by omega
              cases hv : nrA h S i k j with
              | false => rfl
              | true => simp [hv] at hn
      rw [this _ hf j hj] at hp
      cases hp
theorem nrF_some {h : Nat → Int32} {S i k : Nat} (e : ¬ nrF h S i k = -4) : 0 < nrC h S i k := by
  unfold nrF at e
  cases hf : fstB (nrA h S i k) (S + 1) with
  | some y =>
    have h1 := fstB_s hf
    exact cntB_pos h1.1 h1.2
  | none => rw [hf] at e; exact absurd rfl e
set_option maxRecDepth 20000 in
/-- cut -/
theorem cb_cut {l : Launch} {D : va_G} {cy : Nat → ClassId} {z : Nat → Nat} {q : Nat → Nat} {N : Nat} (hI : wI N q) {f : wS} {w p0 : Int32} : Ct l yX7_cut cX7_cut 2 (some .int) 0 0 D cy z N q [.int w, .int p0] f (PI (cutI w p0) f) := by
  refine Ct.of (own := RX7) (by decide) rfl hI (Nat.le_of_ble_eq_true rfl) ?_
  intro p e s m args below meth c C hr
  refine aw_lv (lv' := [(0, .int w), (1, .int p0)]) (fun x hx => hx) ?_
  refine aw_iload_n C dX7_cut_0 (i := 1) rfl rfl ?_
  refine aw_if_le (tgt := 10) C dX7_cut_1 (by decide) (fun h1 => ?_) (fun h1 => ?_)
  · refine aw_iconst C dX7_cut_10 ki_0 ?_
    refine aw_iret C hr dX7_cut_11 ?_
    exact PI.mk (if_pos h1).symm rfl
  · refine aw_iload_n C dX7_cut_4 (i := 0) rfl rfl ?_
    refine aw_iload_n C dX7_cut_5 (i := 1) rfl rfl ?_
    refine aw_idiv C dX7_cut_6 (fun e9 => h1 (by rw [e9]; exact Int32.le_refl 0)) ?_
    refine aw_goto (tgt := 11) C dX7_cut_7 (by decide) ?_
    refine aw_iret C hr dX7_cut_11 ?_
    exact PI.mk (if_neg h1).symm rfl
set_option maxRecDepth 20000 in
/-- heightBetween -/
theorem cb_heightBetween {l : Launch} {D : va_G} {cy : Nat → ClassId} {z : Nat → Nat} {q : Nat → Nat} (hI : wI 49 q) {tl dsp dwi dat bsp bwi pnx phd vkn : Nat} {dff lbl lsh lpk : Int32} {lett : Nat → Nat} {num lim now : Nat → Int32} {prw plr hgr : Nat → Nat → Int32} {bk bd wio wys trl : Nat → Int32} {clr : Nat → Int64} {tld tie fst las saw : Nat → Int32} {b t p0 : Int32} {y : Nat} (hy0 : 0 < y) (hy : y < bsp) (hs : 8 ≤ bsp) (hs2 : bsp ≤ 40) : Ct l yX7_heightBetween cX7_heightBetween 7 (some .int) 1 21 D cy z 49 q [.ref (q 5), .int b, .int t, .int p0, .int (nI y)] (bwC cy q tl dsp dwi dat bsp bwi pnx phd vkn dff lbl lsh lpk lett num lim now prw plr hgr bk bd wio wys trl clr tld tie fst las saw) (PI (hg b t p0 bsp y) (bwC cy q tl dsp dwi dat bsp bwi pnx phd vkn dff lbl lsh lpk lett num lim now prw plr hgr bk bd wio wys trl clr tld tie fst las saw)) := by
  refine Ct.of (own := RX7) (by decide) rfl hI (Nat.le_of_ble_eq_true rfl) ?_
  intro p e s m args below meth c C hr
  refine aw_lv (lv' := [(0, .ref (q 5)), (1, .int b), (2, .int t), (3, .int p0), (4, .int (nI y))]) (fun x hx => hx) ?_
  refine aw_aload_n C dX7_heightBetween_0 (i := 0) rfl rfl ?_
  refine aw_get (k := 5) C dX7_heightBetween_1 fl_X7_26 (by decide) rfl rfl ?_
  refine aw_get (k := 3) C dX7_heightBetween_4 fl_X7_56 (by decide) rfl rfl ?_
  refine aw_istore (lv' := [(0, _), (1, _), (2, _), (3, _), (4, _), (5, _)]) C dX7_heightBetween_7 (Nat.le_of_ble_eq_true rfl) rfl ?_
  refine aw_iload_n C dX7_heightBetween_9 (i := 2) rfl rfl ?_
  refine aw_if_ne (tgt := 17) C dX7_heightBetween_10 (by decide) (fun h10 => ?_) (fun h10 => ?_)
  · refine aw_iload_n C dX7_heightBetween_17 (i := 2) rfl rfl ?_
    refine aw_iconst C dX7_heightBetween_18 ki_1 ?_
    refine aw_icmp_ne (tgt := 56) C dX7_heightBetween_19 (by decide) (fun h19 => ?_) (fun h19 => ?_)
    · refine aw_iload C dX7_heightBetween_56 rfl ?_
      refine aw_iconst C dX7_heightBetween_58 ki_4 ?_
      refine aw_S2i C dX7_heightBetween_59 cs_X7_63 (cb_cut hI) ⟨Nat.le_of_ble_eq_true rfl, Nat.le_of_ble_eq_true rfl⟩ (Nat.le_of_ble_eq_true rfl) ?_
      rw [cut_n (by omega) (by omega), pk_div (by omega) (by omega) (by omega)]
      refine aw_istore (lv' := [(0, _), (1, _), (2, _), (3, _), (4, _), (5, _), (6, _)]) C dX7_heightBetween_62 (Nat.le_of_ble_eq_true rfl) rfl ?_
      refine aw_iload C dX7_heightBetween_64 rfl ?_
      refine aw_iload C dX7_heightBetween_66 rfl ?_
      refine aw_icmp_ge_n (tgt := 83) C dX7_heightBetween_68 (by decide) (by omega) (by omega) (fun h68 => ?_) (fun h68 => ?_)
      · refine aw_iload_n C dX7_heightBetween_83 (i := 1) rfl rfl ?_
        refine aw_iload_n C dX7_heightBetween_84 (i := 3) rfl rfl ?_
        refine aw_iadd C dX7_heightBetween_85 ?_
        refine aw_iload C dX7_heightBetween_86 rfl ?_
        refine aw_iload C dX7_heightBetween_88 rfl ?_
        refine aw_isub_n C dX7_heightBetween_90 (by omega) ?_
        refine aw_imul C dX7_heightBetween_91 ?_
        refine aw_iload C dX7_heightBetween_92 rfl ?_
        refine aw_iload C dX7_heightBetween_94 rfl ?_
        refine aw_isub_n C dX7_heightBetween_96 (by omega) ?_
        refine aw_S2i C dX7_heightBetween_97 cs_X7_63 (cb_cut hI) ⟨Nat.le_of_ble_eq_true rfl, Nat.le_of_ble_eq_true rfl⟩ (Nat.le_of_ble_eq_true rfl) ?_
        rw [cut_n (by omega) (by omega)]
        refine aw_iret C hr dX7_heightBetween_100 ?_
        exact PI.mk (by unfold hg; rw [if_neg (Nat.ne_of_gt hy0), if_neg (Nat.ne_of_lt hy), if_neg h10, if_neg h19, if_neg (Nat.not_lt.mpr h68)]) rfl
      · refine aw_iload_n C dX7_heightBetween_71 (i := 1) rfl rfl ?_
        refine aw_iload_n C dX7_heightBetween_72 (i := 3) rfl rfl ?_
        refine aw_iload C dX7_heightBetween_73 rfl ?_
        refine aw_imul C dX7_heightBetween_75 ?_
        refine aw_iload C dX7_heightBetween_76 rfl ?_
        refine aw_S2i C dX7_heightBetween_78 cs_X7_63 (cb_cut hI) ⟨Nat.le_of_ble_eq_true rfl, Nat.le_of_ble_eq_true rfl⟩ (Nat.le_of_ble_eq_true rfl) ?_
        rw [cut_n (by omega) (by omega)]
        refine aw_iadd C dX7_heightBetween_81 ?_
        refine aw_iret C hr dX7_heightBetween_82 ?_
        exact PI.mk (by unfold hg; rw [if_neg (Nat.ne_of_gt hy0), if_neg (Nat.ne_of_lt hy), if_neg h10, if_neg h19, if_pos h68]) rfl
    · refine aw_iload_n C dX7_heightBetween_22 (i := 1) rfl rfl ?_
      refine aw_iload C dX7_heightBetween_23 rfl ?_
      refine aw_iload C dX7_heightBetween_25 rfl ?_
      refine aw_isub_n C dX7_heightBetween_27 (by omega) ?_
      refine aw_imul C dX7_heightBetween_28 ?_
      refine aw_iload C dX7_heightBetween_29 rfl ?_
      refine aw_S2i C dX7_heightBetween_31 cs_X7_63 (cb_cut hI) ⟨Nat.le_of_ble_eq_true rfl, Nat.le_of_ble_eq_true rfl⟩ (Nat.le_of_ble_eq_true rfl) ?_
      rw [cut_n (by omega) (by omega)]
      refine aw_iconst C dX7_heightBetween_34 ki_4 ?_
      refine aw_iload_n C dX7_heightBetween_35 (i := 3) rfl rfl ?_
      refine aw_imul C dX7_heightBetween_36 ?_
      refine aw_iload C dX7_heightBetween_37 rfl ?_
      refine aw_imul C dX7_heightBetween_39 ?_
      refine aw_iload C dX7_heightBetween_40 rfl ?_
      refine aw_iload C dX7_heightBetween_42 rfl ?_
      refine aw_isub_n C dX7_heightBetween_44 (by omega) ?_
      refine aw_imul C dX7_heightBetween_45 ?_
      refine aw_iload C dX7_heightBetween_46 rfl ?_
      refine aw_iload C dX7_heightBetween_48 rfl ?_
      refine aw_imul_n C dX7_heightBetween_50 ?_
      refine aw_S2i C dX7_heightBetween_51 cs_X7_63 (cb_cut hI) ⟨Nat.le_of_ble_eq_true rfl, Nat.le_of_ble_eq_true rfl⟩ (Nat.le_of_ble_eq_true rfl) ?_
      rw [cut_n (Nat.mul_pos (by omega) (by omega)) (by have := Nat.mul_le_mul hs2 hs2; omega)]
      refine aw_iadd C dX7_heightBetween_54 ?_
      refine aw_iret C hr dX7_heightBetween_55 ?_
      exact PI.mk (by unfold hg; rw [if_neg (Nat.ne_of_gt hy0), if_neg (Nat.ne_of_lt hy), if_neg h10, if_pos h19]) rfl
  · refine aw_iload_n C dX7_heightBetween_13 (i := 1) rfl rfl ?_
    refine aw_iload_n C dX7_heightBetween_14 (i := 3) rfl rfl ?_
    refine aw_iadd C dX7_heightBetween_15 ?_
    refine aw_iret C hr dX7_heightBetween_16 ?_
    exact PI.mk (by unfold hg; rw [if_neg (Nat.ne_of_gt hy0), if_neg (Nat.ne_of_lt hy), if_pos h10]) rfl
set_option maxRecDepth 20000 in
/-- fillPlaces, its loop -/
theorem cb_fillPlaces_l {l : Launch} {D : va_G} {cy : Nat → ClassId} {z : Nat → Nat} {q : Nat → Nat} {p : Program} {e : Env} {s : State} {m : MethodId} {args : Array Value} {below : List Frame} {meth : Method} {c : Code} (hI : wI 49 q) (C : Cx p s m args meth c cX7_fillPlaces 5 RX7 D cy z 49 q) (hr : meth.sig.returnType = none) {tl dsp dwi dat bsp bwi pnx phd vkn : Nat} {dff lbl lsh lpk : Int32} {lett : Nat → Nat} {num lim now : Nat → Int32} {prw plr hgr : Nat → Nat → Int32} {bk bd wio wys trl : Nat → Int32} {clr : Nat → Int64} {tld tie fst las saw : Nat → Int32} {i : Nat} (hi : i < 8) (hs2 : bsp ≤ 40) : ∀ (d : Nat) (y : Nat), bsp + 1 - y < d → (y ≤ bsp + 1) → AW p l e { frames := 1, cells := 0, slots := 0, locals := 22 } s m args below meth c D 49 q 5 (MQ below (Qg D 49 q (PV (bwC cy q tl dsp dwi dat bsp bwi pnx phd vkn dff lbl lsh lpk lett num lim now prw (va_up plr i (cpG (plX (now (i * 5 + 0) + now 43) (now (i * 5 + 2)) bsp) (plr i) (bsp + 1))) hgr bk bd wio wys trl clr tld tie fst las saw)) (wA 49 q s.heap.size)) args s 0 0 (wA 49 q s.heap.size)) (bwC cy q tl dsp dwi dat bsp bwi pnx phd vkn dff lbl lsh lpk lett num lim now prw (va_up plr i (cpG (plX (now (i * 5 + 0) + now 43) (now (i * 5 + 2)) bsp) (plr i) y)) hgr bk bd wio wys trl clr tld tie fst las saw) [(0, .ref (q 5)), (1, .int (nI i)), (2, .int (now (i * 5 + 0) + now 43)), (3, .int (now (i * 5 + 2))), (4, .int (nI y))] 31 [] := by
  intro d
  induction d with
  | zero => intro y hd; exact absurd hd (Nat.not_lt_zero _)
  | succ d ih =>
    intro y hd iv0
    refine aw_iload C dX7_fillPlaces_31 rfl ?_
    refine aw_aload_n C dX7_fillPlaces_33 (i := 0) rfl rfl ?_
    refine aw_get (k := 5) C dX7_fillPlaces_34 fl_X7_26 (by decide) rfl rfl ?_
    refine aw_get (k := 3) C dX7_fillPlaces_37 fl_X7_56 (by decide) rfl rfl ?_
    refine aw_icmp_gt_n (tgt := 75) C dX7_fillPlaces_40 (by decide) (by omega) (by omega) (fun h40 => ?_) (fun h40 => ?_)
    · refine aw_vret C hr dX7_fillPlaces_75 ?_
      obtain rfl : y = bsp + 1 := by omega
      exact ⟨rfl, rfl⟩
    · refine aw_aload_n C dX7_fillPlaces_43 (i := 0) rfl rfl ?_
      refine aw_get (k := 5) C dX7_fillPlaces_44 fl_X7_11 (by decide) rfl rfl ?_
      refine aw_iload_n C dX7_fillPlaces_47 (i := 1) rfl rfl ?_
      refine aw_aald (k := 20) (n := i) C dX7_fillPlaces_48 (by decide) rfl (rfl) (by omega) (by decide) rfl ?_
      refine aw_iload C dX7_fillPlaces_49 rfl ?_
      refine aw_iload_n C dX7_fillPlaces_51 (i := 2) rfl rfl ?_
      refine aw_aload_n C dX7_fillPlaces_52 (i := 0) rfl rfl ?_
      refine aw_get (k := 5) C dX7_fillPlaces_53 fl_X7_26 (by decide) rfl rfl ?_
      refine aw_get (k := 3) C dX7_fillPlaces_56 fl_X7_56 (by decide) rfl rfl ?_
      refine aw_iload C dX7_fillPlaces_59 rfl ?_
      refine aw_isub_n C dX7_fillPlaces_61 (by omega) ?_
      refine aw_imul C dX7_fillPlaces_62 ?_
      refine aw_iload_n C dX7_fillPlaces_63 (i := 3) rfl rfl ?_
      refine aw_iload C dX7_fillPlaces_64 rfl ?_
      refine aw_imul C dX7_fillPlaces_66 ?_
      refine aw_iadd C dX7_fillPlaces_67 ?_
      refine aw_iast (k := (21 + i)) C dX7_fillPlaces_68 (by omega) (bw_r_plr (by omega)) (rfl) (by omega) (by decide) (bw_u_plr (by omega)) ?_
      refine aw_iinc_n (lv' := [(0, _), (1, _), (2, _), (3, _), (4, _)]) C dX7_fillPlaces_69 rfl ki_1 (Nat.le_of_ble_eq_true rfl) rfl ?_
      refine aw_goto (tgt := 31) C dX7_fillPlaces_72 (by decide) ?_
      rw [va_up_self, bx_uu]
      have e9 := cpG_s (plX (now (i * 5 + 0) + now 43) (now (i * 5 + 2)) bsp) (plr i) y
      have k9 := ih (y + 1) (by omega) (by omega)
      rw [← e9] at k9
      exact k9
set_option maxRecDepth 20000 in
/-- fillPlaces -/
theorem cb_fillPlaces {l : Launch} {D : va_G} {cy : Nat → ClassId} {z : Nat → Nat} {q : Nat → Nat} (hI : wI 49 q) {tl dsp dwi dat bsp bwi pnx phd vkn : Nat} {dff lbl lsh lpk : Int32} {lett : Nat → Nat} {num lim now : Nat → Int32} {prw plr hgr : Nat → Nat → Int32} {bk bd wio wys trl : Nat → Int32} {clr : Nat → Int64} {tld tie fst las saw : Nat → Int32} {i : Nat} (hi : i < 8) (hs2 : bsp ≤ 40) : Ct l yX7_fillPlaces cX7_fillPlaces 5 none 1 22 D cy z 49 q [.ref (q 5), .int (nI i)] (bwC cy q tl dsp dwi dat bsp bwi pnx phd vkn dff lbl lsh lpk lett num lim now prw plr hgr bk bd wio wys trl clr tld tie fst las saw) (PV (bwC cy q tl dsp dwi dat bsp bwi pnx phd vkn dff lbl lsh lpk lett num lim now prw (va_up plr i (cpG (plX (now (i * 5 + 0) + now 43) (now (i * 5 + 2)) bsp) (plr i) (bsp + 1))) hgr bk bd wio wys trl clr tld tie fst las saw)) := by
  refine Ct.of (own := RX7) (by decide) rfl hI (Nat.le_of_ble_eq_true rfl) ?_
  intro p e s m args below meth c C hr
  refine aw_lv (lv' := [(0, .ref (q 5)), (1, .int (nI i))]) (fun x hx => hx) ?_
  refine aw_aload_n C dX7_fillPlaces_0 (i := 0) rfl rfl ?_
  refine aw_get (k := 5) C dX7_fillPlaces_1 fl_X7_26 (by decide) rfl rfl ?_
  refine aw_iload_n C dX7_fillPlaces_4 (i := 1) rfl rfl ?_
  refine aw_iconst C dX7_fillPlaces_5 ki_0 ?_
  refine aw_V2i (k := 3) C dX7_fillPlaces_6 cv_X7_40 (by decide) rfl rfl rfl (cb_numberOf hI (by omega)) ⟨Nat.le_of_ble_eq_true rfl, Nat.le_of_ble_eq_true rfl⟩ (Nat.le_of_ble_eq_true rfl) ?_
  refine aw_aload_n C dX7_fillPlaces_9 (i := 0) rfl rfl ?_
  refine aw_get (k := 5) C dX7_fillPlaces_10 fl_X7_26 (by decide) rfl rfl ?_
  refine aw_V0i (k := 3) C dX7_fillPlaces_13 cv_X7_52 (by decide) rfl rfl rfl (cb_shiftNow hI) ⟨Nat.le_of_ble_eq_true rfl, Nat.le_of_ble_eq_true rfl⟩ (Nat.le_of_ble_eq_true rfl) ?_
  refine aw_iadd C dX7_fillPlaces_16 ?_
  refine aw_istore_n (lv' := [(0, _), (1, _), (2, _)]) C dX7_fillPlaces_17 (i := 2) rfl (Nat.le_of_ble_eq_true rfl) rfl ?_
  refine aw_aload_n C dX7_fillPlaces_18 (i := 0) rfl rfl ?_
  refine aw_get (k := 5) C dX7_fillPlaces_19 fl_X7_26 (by decide) rfl rfl ?_
  refine aw_iload_n C dX7_fillPlaces_22 (i := 1) rfl rfl ?_
  refine aw_iconst C dX7_fillPlaces_23 ki_2 ?_
  refine aw_V2i (k := 3) C dX7_fillPlaces_24 cv_X7_40 (by decide) rfl rfl rfl (cb_numberOf hI (by omega)) ⟨Nat.le_of_ble_eq_true rfl, Nat.le_of_ble_eq_true rfl⟩ (Nat.le_of_ble_eq_true rfl) ?_
  refine aw_istore_n (lv' := [(0, _), (1, _), (2, _), (3, _)]) C dX7_fillPlaces_27 (i := 3) rfl (Nat.le_of_ble_eq_true rfl) rfl ?_
  refine aw_iconst C dX7_fillPlaces_28 ki_0 ?_
  refine aw_istore (lv' := [(0, _), (1, _), (2, _), (3, _), (4, _)]) C dX7_fillPlaces_29 (Nat.le_of_ble_eq_true rfl) rfl ?_
  refine aw_fq (f' := (bwC cy q tl dsp dwi dat bsp bwi pnx phd vkn dff lbl lsh lpk lett num lim now prw (va_up plr i (cpG (plX (now (i * 5 + 0) + now 43) (now (i * 5 + 2)) bsp) (plr i) 0)) hgr bk bd wio wys trl clr tld tie fst las saw)) (by rw [cpG_0, up_id]) ?_
  exact cb_fillPlaces_l hI C hr hi hs2 (bsp + 2) 0 (by omega) (by omega)
set_option maxRecDepth 20000 in
/-- fillHeights, its loop -/
theorem cb_fillHeightsh_l {l : Launch} {D : va_G} {cy : Nat → ClassId} {z : Nat → Nat} {q : Nat → Nat} {p : Program} {e : Env} {s : State} {m : MethodId} {args : Array Value} {below : List Frame} {meth : Method} {c : Code} (hI : wI 49 q) (C : Cx p s m args meth c cX7_fillHeights 7 RX7 D cy z 49 q) (hr : meth.sig.returnType = none) {tl dsp dwi dat bsp bwi pnx phd vkn : Nat} {dff lbl lsh lpk : Int32} {lett : Nat → Nat} {num lim now : Nat → Int32} {prw plr hgr : Nat → Nat → Int32} {bk bd wio wys trl : Nat → Int32} {clr : Nat → Int64} {tld tie fst las saw : Nat → Int32} {i : Nat} {t p0 : Int32} {j : Nat} (hj : j < 8) (hi : i < 8) (hs : 8 ≤ bsp) (hs2 : bsp ≤ 40) : ∀ (d : Nat) (y : Nat), bsp - y < d → (1 ≤ y ∧ y ≤ bsp) → AW p l e { frames := 2, cells := 0, slots := 0, locals := 47 } s m args below meth c D 49 q 7 (MQ below (Qg D 49 q (PV (bwC cy q tl dsp dwi dat bsp bwi pnx phd vkn dff lbl lsh lpk lett num lim now prw plr (va_up hgr j (cpG (fun w9 => hg (nI 10 * now (i * 5 + 1)) t p0 bsp w9) (hgr j) (bsp + 1))) bk bd wio wys trl clr tld tie fst las saw)) (wA 49 q s.heap.size)) args s 0 0 (wA 49 q s.heap.size)) (bwC cy q tl dsp dwi dat bsp bwi pnx phd vkn dff lbl lsh lpk lett num lim now prw plr (va_up hgr j (cpG (fun w9 => hg (nI 10 * now (i * 5 + 1)) t p0 bsp w9) (hgr j) y)) bk bd wio wys trl clr tld tie fst las saw) [(0, .ref (q 5)), (1, .ref (q (30 + j))), (2, .int (nI i)), (3, .int t), (4, .int p0), (5, .int (nI 10 * now (i * 5 + 1))), (6, .int (nI y))] 22 [] := by
  intro d
  induction d with
  | zero => intro y hd; exact absurd hd (Nat.not_lt_zero _)
  | succ d ih =>
    intro y hd iv0
    refine aw_iload C dX7_fillHeights_22 rfl ?_
    refine aw_aload_n C dX7_fillHeights_24 (i := 0) rfl rfl ?_
    refine aw_get (k := 5) C dX7_fillHeights_25 fl_X7_26 (by decide) rfl rfl ?_
    refine aw_get (k := 3) C dX7_fillHeights_28 fl_X7_56 (by decide) rfl rfl ?_
    refine aw_icmp_ge_n (tgt := 55) C dX7_fillHeights_31 (by decide) (by omega) (by omega) (fun h31 => ?_) (fun h31 => ?_)
    · refine aw_aload_n C dX7_fillHeights_55 (i := 1) rfl rfl ?_
      refine aw_aload_n C dX7_fillHeights_56 (i := 0) rfl rfl ?_
      refine aw_get (k := 5) C dX7_fillHeights_57 fl_X7_26 (by decide) rfl rfl ?_
      refine aw_get (k := 3) C dX7_fillHeights_60 fl_X7_56 (by decide) rfl rfl ?_
      refine aw_iconst C dX7_fillHeights_63 ki_0 ?_
      refine aw_iast (k := (30 + j)) C dX7_fillHeights_64 (by omega) (bw_r_hgr (by omega)) (rfl) (by omega) (by decide) (bw_u_hgr (by omega)) ?_
      refine aw_vret C hr dX7_fillHeights_65 ?_
      obtain rfl : y = bsp := by omega
      rw [va_up_self, bx_uu]
      have e9 := cpG_s (fun w9 => hg (nI 10 * now (i * 5 + 1)) t p0 y w9) (hgr j) y
      have e8 : hg (nI 10 * now (i * 5 + 1)) t p0 y y = nI 0 := by unfold hg; rw [if_neg (by omega), if_pos rfl]
      rw [e8] at e9
      rw [e9]
      exact ⟨rfl, rfl⟩
    · refine aw_aload_n C dX7_fillHeights_34 (i := 1) rfl rfl ?_
      refine aw_iload C dX7_fillHeights_35 rfl ?_
      refine aw_aload_n C dX7_fillHeights_37 (i := 0) rfl rfl ?_
      refine aw_iload C dX7_fillHeights_38 rfl ?_
      refine aw_iload_n C dX7_fillHeights_40 (i := 3) rfl rfl ?_
      refine aw_iload C dX7_fillHeights_41 rfl ?_
      refine aw_iload C dX7_fillHeights_43 rfl ?_
      refine aw_V4i (k := 5) C dX7_fillHeights_45 cv_X7_59 (by decide) rfl rfl rfl (cb_heightBetween hI (by omega) (by omega) hs hs2) ⟨Nat.le_of_ble_eq_true rfl, Nat.le_of_ble_eq_true rfl⟩ (Nat.le_of_ble_eq_true rfl) ?_
      refine aw_iast (k := (30 + j)) C dX7_fillHeights_48 (by omega) (bw_r_hgr (by omega)) (rfl) (by omega) (by decide) (bw_u_hgr (by omega)) ?_
      refine aw_iinc_n (lv' := [(0, _), (1, _), (2, _), (3, _), (4, _), (5, _), (6, _)]) C dX7_fillHeights_49 rfl ki_1 (Nat.le_of_ble_eq_true rfl) rfl ?_
      refine aw_goto (tgt := 22) C dX7_fillHeights_52 (by decide) ?_
      rw [va_up_self, bx_uu]
      have e9 := cpG_s (fun w9 => hg (nI 10 * now (i * 5 + 1)) t p0 bsp w9) (hgr j) y
      have k9 := ih (y + 1) (by omega) (by omega)
      rw [← e9] at k9
      exact k9
set_option maxRecDepth 20000 in
/-- fillHeights -/
theorem cb_fillHeightsh {l : Launch} {D : va_G} {cy : Nat → ClassId} {z : Nat → Nat} {q : Nat → Nat} (hI : wI 49 q) {tl dsp dwi dat bsp bwi pnx phd vkn : Nat} {dff lbl lsh lpk : Int32} {lett : Nat → Nat} {num lim now : Nat → Int32} {prw plr hgr : Nat → Nat → Int32} {bk bd wio wys trl : Nat → Int32} {clr : Nat → Int64} {tld tie fst las saw : Nat → Int32} {i : Nat} {t p0 : Int32} {j : Nat} (hj : j < 8) (hi : i < 8) (hs : 8 ≤ bsp) (hs2 : bsp ≤ 40) : Ct l yX7_fillHeights cX7_fillHeights 7 none 2 47 D cy z 49 q [.ref (q 5), .ref (q (30 + j)), .int (nI i), .int t, .int p0] (bwC cy q tl dsp dwi dat bsp bwi pnx phd vkn dff lbl lsh lpk lett num lim now prw plr hgr bk bd wio wys trl clr tld tie fst las saw) (PV (bwC cy q tl dsp dwi dat bsp bwi pnx phd vkn dff lbl lsh lpk lett num lim now prw plr (va_up hgr j (cpG (fun w9 => hg (nI 10 * now (i * 5 + 1)) t p0 bsp w9) (hgr j) (bsp + 1))) bk bd wio wys trl clr tld tie fst las saw)) := by
  refine Ct.of (own := RX7) (by decide) rfl hI (Nat.le_of_ble_eq_true rfl) ?_
  intro p e s m args below meth c C hr
  refine aw_lv (lv' := [(0, .ref (q 5)), (1, .ref (q (30 + j))), (2, .int (nI i)), (3, .int t), (4, .int p0)]) (fun x hx => hx) ?_
  refine aw_bipush C dX7_fillHeights_0 kb_10 ?_
  refine aw_aload_n C dX7_fillHeights_2 (i := 0) rfl rfl ?_
  refine aw_get (k := 5) C dX7_fillHeights_3 fl_X7_26 (by decide) rfl rfl ?_
  refine aw_iload_n C dX7_fillHeights_6 (i := 2) rfl rfl ?_
  refine aw_iconst C dX7_fillHeights_7 ki_1 ?_
  refine aw_V2i (k := 3) C dX7_fillHeights_8 cv_X7_40 (by decide) rfl rfl rfl (cb_numberOf hI (by omega)) ⟨Nat.le_of_ble_eq_true rfl, Nat.le_of_ble_eq_true rfl⟩ (Nat.le_of_ble_eq_true rfl) ?_
  refine aw_imul C dX7_fillHeights_11 ?_
  refine aw_istore (lv' := [(0, _), (1, _), (2, _), (3, _), (4, _), (5, _)]) C dX7_fillHeights_12 (Nat.le_of_ble_eq_true rfl) rfl ?_
  refine aw_aload_n C dX7_fillHeights_14 (i := 1) rfl rfl ?_
  refine aw_iconst C dX7_fillHeights_15 ki_0 ?_
  refine aw_iload C dX7_fillHeights_16 rfl ?_
  refine aw_iast (k := (30 + j)) C dX7_fillHeights_18 (by omega) (bw_r_hgr (by omega)) (rfl) (by omega) (by decide) (bw_u_hgr (by omega)) ?_
  refine aw_iconst C dX7_fillHeights_19 ki_1 ?_
  refine aw_istore (lv' := [(0, _), (1, _), (2, _), (3, _), (4, _), (5, _), (6, _)]) C dX7_fillHeights_20 (Nat.le_of_ble_eq_true rfl) rfl ?_
  have e9 := cpG_s (fun w9 => hg (nI 10 * now (i * 5 + 1)) t p0 bsp w9) (hgr j) 0
  rw [cpG_0] at e9
  have e8 : hg (nI 10 * now (i * 5 + 1)) t p0 bsp 0 = nI 10 * now (i * 5 + 1) := if_pos rfl
  have k9 := cb_fillHeightsh_l (l := l) (below := below) (e := e) (tl := tl) (dsp := dsp) (dwi := dwi) (dat := dat) (bsp := bsp) (bwi := bwi) (pnx := pnx) (phd := phd) (vkn := vkn) (dff := dff) (lbl := lbl) (lsh := lsh) (lpk := lpk) (lett := lett) (num := num) (lim := lim) (now := now) (prw := prw) (plr := plr) (hgr := hgr) (bk := bk) (bd := bd) (wio := wio) (wys := wys) (trl := trl) (clr := clr) (tld := tld) (tie := tie) (fst := fst) (las := las) (saw := saw) (i := i) (t := t) (p0 := p0) (j := j) hI C hr hj hi hs hs2 (bsp + 1) 1 (by omega) (by omega)
  rw [← e9, e8] at k9
  exact k9
set_option maxRecDepth 20000 in
/-- fillHeights, its loop -/
theorem cb_fillHeightst_l {l : Launch} {D : va_G} {cy : Nat → ClassId} {z : Nat → Nat} {q : Nat → Nat} {p : Program} {e : Env} {s : State} {m : MethodId} {args : Array Value} {below : List Frame} {meth : Method} {c : Code} (hI : wI 49 q) (C : Cx p s m args meth c cX7_fillHeights 7 RX7 D cy z 49 q) (hr : meth.sig.returnType = none) {tl dsp dwi dat bsp bwi pnx phd vkn : Nat} {dff lbl lsh lpk : Int32} {lett : Nat → Nat} {num lim now : Nat → Int32} {prw plr hgr : Nat → Nat → Int32} {bk bd wio wys trl : Nat → Int32} {clr : Nat → Int64} {tld tie fst las saw : Nat → Int32} {i : Nat} {t p0 : Int32} (hi : i < 8) (hs : 8 ≤ bsp) (hs2 : bsp ≤ 40) : ∀ (d : Nat) (y : Nat), bsp - y < d → (1 ≤ y ∧ y ≤ bsp) → AW p l e { frames := 2, cells := 0, slots := 0, locals := 47 } s m args below meth c D 49 q 7 (MQ below (Qg D 49 q (PV (bwC cy q tl dsp dwi dat bsp bwi pnx phd vkn dff lbl lsh lpk lett num lim now prw plr hgr bk bd wio wys (cpG (fun w9 => hg (nI 10 * now (i * 5 + 1)) t p0 bsp w9) trl (bsp + 1)) clr tld tie fst las saw)) (wA 49 q s.heap.size)) args s 0 0 (wA 49 q s.heap.size)) (bwC cy q tl dsp dwi dat bsp bwi pnx phd vkn dff lbl lsh lpk lett num lim now prw plr hgr bk bd wio wys (cpG (fun w9 => hg (nI 10 * now (i * 5 + 1)) t p0 bsp w9) trl y) clr tld tie fst las saw) [(0, .ref (q 5)), (1, .ref (q 42)), (2, .int (nI i)), (3, .int t), (4, .int p0), (5, .int (nI 10 * now (i * 5 + 1))), (6, .int (nI y))] 22 [] := by
  intro d
  induction d with
  | zero => intro y hd; exact absurd hd (Nat.not_lt_zero _)
  | succ d ih =>
    intro y hd iv0
    refine aw_iload C dX7_fillHeights_22 rfl ?_
    refine aw_aload_n C dX7_fillHeights_24 (i := 0) rfl rfl ?_
    refine aw_get (k := 5) C dX7_fillHeights_25 fl_X7_26 (by decide) rfl rfl ?_
    refine aw_get (k := 3) C dX7_fillHeights_28 fl_X7_56 (by decide) rfl rfl ?_
    refine aw_icmp_ge_n (tgt := 55) C dX7_fillHeights_31 (by decide) (by omega) (by omega) (fun h31 => ?_) (fun h31 => ?_)
    · refine aw_aload_n C dX7_fillHeights_55 (i := 1) rfl rfl ?_
      refine aw_aload_n C dX7_fillHeights_56 (i := 0) rfl rfl ?_
      refine aw_get (k := 5) C dX7_fillHeights_57 fl_X7_26 (by decide) rfl rfl ?_
      refine aw_get (k := 3) C dX7_fillHeights_60 fl_X7_56 (by decide) rfl rfl ?_
      refine aw_iconst C dX7_fillHeights_63 ki_0 ?_
      refine aw_iast (k := 42) C dX7_fillHeights_64 (by decide) (rfl) (rfl) (by omega) (by decide) (bw_a_trl) ?_
      refine aw_vret C hr dX7_fillHeights_65 ?_
      obtain rfl : y = bsp := by omega
      have e9 := cpG_s (fun w9 => hg (nI 10 * now (i * 5 + 1)) t p0 y w9) trl y
      have e8 : hg (nI 10 * now (i * 5 + 1)) t p0 y y = nI 0 := by unfold hg; rw [if_neg (by omega), if_pos rfl]
      rw [e8] at e9
      rw [e9]
      exact ⟨rfl, rfl⟩
    · refine aw_aload_n C dX7_fillHeights_34 (i := 1) rfl rfl ?_
      refine aw_iload C dX7_fillHeights_35 rfl ?_
      refine aw_aload_n C dX7_fillHeights_37 (i := 0) rfl rfl ?_
      refine aw_iload C dX7_fillHeights_38 rfl ?_
      refine aw_iload_n C dX7_fillHeights_40 (i := 3) rfl rfl ?_
      refine aw_iload C dX7_fillHeights_41 rfl ?_
      refine aw_iload C dX7_fillHeights_43 rfl ?_
      refine aw_V4i (k := 5) C dX7_fillHeights_45 cv_X7_59 (by decide) rfl rfl rfl (cb_heightBetween hI (by omega) (by omega) hs hs2) ⟨Nat.le_of_ble_eq_true rfl, Nat.le_of_ble_eq_true rfl⟩ (Nat.le_of_ble_eq_true rfl) ?_
      refine aw_iast (k := 42) C dX7_fillHeights_48 (by decide) (rfl) (rfl) (by omega) (by decide) (bw_a_trl) ?_
      refine aw_iinc_n (lv' := [(0, _), (1, _), (2, _), (3, _), (4, _), (5, _), (6, _)]) C dX7_fillHeights_49 rfl ki_1 (Nat.le_of_ble_eq_true rfl) rfl ?_
      refine aw_goto (tgt := 22) C dX7_fillHeights_52 (by decide) ?_
      have e9 := cpG_s (fun w9 => hg (nI 10 * now (i * 5 + 1)) t p0 bsp w9) trl y
      have k9 := ih (y + 1) (by omega) (by omega)
      rw [← e9] at k9
      exact k9
set_option maxRecDepth 20000 in
/-- fillHeights -/
theorem cb_fillHeightst {l : Launch} {D : va_G} {cy : Nat → ClassId} {z : Nat → Nat} {q : Nat → Nat} (hI : wI 49 q) {tl dsp dwi dat bsp bwi pnx phd vkn : Nat} {dff lbl lsh lpk : Int32} {lett : Nat → Nat} {num lim now : Nat → Int32} {prw plr hgr : Nat → Nat → Int32} {bk bd wio wys trl : Nat → Int32} {clr : Nat → Int64} {tld tie fst las saw : Nat → Int32} {i : Nat} {t p0 : Int32} (hi : i < 8) (hs : 8 ≤ bsp) (hs2 : bsp ≤ 40) : Ct l yX7_fillHeights cX7_fillHeights 7 none 2 47 D cy z 49 q [.ref (q 5), .ref (q 42), .int (nI i), .int t, .int p0] (bwC cy q tl dsp dwi dat bsp bwi pnx phd vkn dff lbl lsh lpk lett num lim now prw plr hgr bk bd wio wys trl clr tld tie fst las saw) (PV (bwC cy q tl dsp dwi dat bsp bwi pnx phd vkn dff lbl lsh lpk lett num lim now prw plr hgr bk bd wio wys (cpG (fun w9 => hg (nI 10 * now (i * 5 + 1)) t p0 bsp w9) trl (bsp + 1)) clr tld tie fst las saw)) := by
  refine Ct.of (own := RX7) (by decide) rfl hI (Nat.le_of_ble_eq_true rfl) ?_
  intro p e s m args below meth c C hr
  refine aw_lv (lv' := [(0, .ref (q 5)), (1, .ref (q 42)), (2, .int (nI i)), (3, .int t), (4, .int p0)]) (fun x hx => hx) ?_
  refine aw_bipush C dX7_fillHeights_0 kb_10 ?_
  refine aw_aload_n C dX7_fillHeights_2 (i := 0) rfl rfl ?_
  refine aw_get (k := 5) C dX7_fillHeights_3 fl_X7_26 (by decide) rfl rfl ?_
  refine aw_iload_n C dX7_fillHeights_6 (i := 2) rfl rfl ?_
  refine aw_iconst C dX7_fillHeights_7 ki_1 ?_
  refine aw_V2i (k := 3) C dX7_fillHeights_8 cv_X7_40 (by decide) rfl rfl rfl (cb_numberOf hI (by omega)) ⟨Nat.le_of_ble_eq_true rfl, Nat.le_of_ble_eq_true rfl⟩ (Nat.le_of_ble_eq_true rfl) ?_
  refine aw_imul C dX7_fillHeights_11 ?_
  refine aw_istore (lv' := [(0, _), (1, _), (2, _), (3, _), (4, _), (5, _)]) C dX7_fillHeights_12 (Nat.le_of_ble_eq_true rfl) rfl ?_
  refine aw_aload_n C dX7_fillHeights_14 (i := 1) rfl rfl ?_
  refine aw_iconst C dX7_fillHeights_15 ki_0 ?_
  refine aw_iload C dX7_fillHeights_16 rfl ?_
  refine aw_iast (k := 42) C dX7_fillHeights_18 (by decide) (rfl) (rfl) (by omega) (by decide) (bw_a_trl) ?_
  refine aw_iconst C dX7_fillHeights_19 ki_1 ?_
  refine aw_istore (lv' := [(0, _), (1, _), (2, _), (3, _), (4, _), (5, _), (6, _)]) C dX7_fillHeights_20 (Nat.le_of_ble_eq_true rfl) rfl ?_
  have e9 := cpG_s (fun w9 => hg (nI 10 * now (i * 5 + 1)) t p0 bsp w9) trl 0
  rw [cpG_0] at e9
  have e8 : hg (nI 10 * now (i * 5 + 1)) t p0 bsp 0 = nI 10 * now (i * 5 + 1) := if_pos rfl
  have k9 := cb_fillHeightst_l (l := l) (below := below) (e := e) (tl := tl) (dsp := dsp) (dwi := dwi) (dat := dat) (bsp := bsp) (bwi := bwi) (pnx := pnx) (phd := phd) (vkn := vkn) (dff := dff) (lbl := lbl) (lsh := lsh) (lpk := lpk) (lett := lett) (num := num) (lim := lim) (now := now) (prw := prw) (plr := plr) (hgr := hgr) (bk := bk) (bd := bd) (wio := wio) (wys := wys) (trl := trl) (clr := clr) (tld := tld) (tie := tie) (fst := fst) (las := las) (saw := saw) (i := i) (t := t) (p0 := p0) hI C hr hi hs hs2 (bsp + 1) 1 (by omega) (by omega)
  rw [← e9, e8] at k9
  exact k9
set_option maxRecDepth 20000 in
/-- refresh, its loop -/
theorem cb_refresh_l {l : Launch} {D : va_G} {cy : Nat → ClassId} {z : Nat → Nat} {q : Nat → Nat} {p : Program} {e : Env} {s : State} {m : MethodId} {args : Array Value} {below : List Frame} {meth : Method} {c : Code} (hI : wI 49 q) (C : Cx p s m args meth c cX7_refresh 2 RX7 D cy z 49 q) (hr : meth.sig.returnType = none) {tl dsp dwi dat bsp bwi pnx phd vkn : Nat} {dff lbl lsh lpk : Int32} {lett : Nat → Nat} {num lim now : Nat → Int32} {prw : Nat → Nat → Int32} {bk bd wio wys trl : Nat → Int32} {clr : Nat → Int64} {tld tie fst las saw : Nat → Int32} {h : Nat → Int32} (hA : agr now h bwi) (hs : 8 ≤ bsp) (hs2 : bsp ≤ 40) (hw : bwi ≤ 8) : ∀ (d : Nat) (k : Nat) (plr : Nat → Nat → Int32) (hgr : Nat → Nat → Int32), bwi - k < d → (k ≤ bwi) → (∀ i, i < k → ∀ y, y ≤ bsp → plr i y = plc h bsp i y) → (∀ i, i < k → ∀ y, y ≤ bsp → hgr i y = hgt h bsp i y) → AW p l e { frames := 3, cells := 0, slots := 0, locals := 73 } s m args below meth c D 49 q 2 (MQ below (Qg D 49 q (PY (fun g => ∃ p9 h9, g = (bwC cy q tl dsp dwi dat bsp bwi pnx phd 0 dff lbl lsh lpk lett num lim now prw p9 h9 bk bd wio wys trl clr tld tie fst las saw) ∧ vPl p9 h bsp bwi ∧ vHg h9 h bsp bwi)) (wA 49 q s.heap.size)) args s 0 0 (wA 49 q s.heap.size)) (bwC cy q tl dsp dwi dat bsp bwi pnx phd vkn dff lbl lsh lpk lett num lim now prw plr hgr bk bd wio wys trl clr tld tie fst las saw) [(0, .ref (q 5)), (1, .int (nI k))] 2 [] := by
  intro d
  induction d with
  | zero => intro k plr hgr hd; exact absurd hd (Nat.not_lt_zero _)
  | succ d ih =>
    intro k plr hgr hd iv0 iv1 iv2
    refine aw_iload_n C dX7_refresh_2 (i := 1) rfl rfl ?_
    refine aw_aload_n C dX7_refresh_3 (i := 0) rfl rfl ?_
    refine aw_get (k := 5) C dX7_refresh_4 fl_X7_26 (by decide) rfl rfl ?_
    refine aw_get (k := 3) C dX7_refresh_7 fl_X7_30 (by decide) rfl rfl ?_
    refine aw_icmp_ge_n (tgt := 53) C dX7_refresh_10 (by decide) (by omega) (by omega) (fun h10 => ?_) (fun h10 => ?_)
    · refine aw_aload_n C dX7_refresh_53 (i := 0) rfl rfl ?_
      refine aw_iconst C dX7_refresh_54 ki_0 ?_
      refine aw_put (k := 5) C dX7_refresh_55 fp_X7_48 (by decide) rfl rfl rfl (Nat.le_of_ble_eq_true rfl) bw_p_vkn ?_
      refine aw_vret C hr dX7_refresh_58 ?_
      obtain rfl : k = bwi := by omega
      exact ⟨rfl, _, _, rfl, iv1, iv2⟩
    · refine aw_aload_n C dX7_refresh_13 (i := 0) rfl rfl ?_
      refine aw_iload_n C dX7_refresh_14 (i := 1) rfl rfl ?_
      refine aw_V1v (k := 5) C dX7_refresh_15 cv_X7_36 (by decide) rfl rfl rfl (cb_fillPlaces hI (by omega) hs2) ⟨Nat.le_of_ble_eq_true rfl, Nat.le_of_ble_eq_true rfl⟩ (Nat.le_of_ble_eq_true rfl) ?_
      refine aw_aload_n C dX7_refresh_18 (i := 0) rfl rfl ?_
      refine aw_aload_n C dX7_refresh_19 (i := 0) rfl rfl ?_
      refine aw_get (k := 5) C dX7_refresh_20 fl_X7_16 (by decide) rfl rfl ?_
      refine aw_iload_n C dX7_refresh_23 (i := 1) rfl rfl ?_
      refine aw_aald (k := 29) (n := k) C dX7_refresh_24 (by decide) rfl (rfl) (by omega) (by decide) rfl ?_
      refine aw_iload_n C dX7_refresh_25 (i := 1) rfl rfl ?_
      refine aw_aload_n C dX7_refresh_26 (i := 0) rfl rfl ?_
      refine aw_get (k := 5) C dX7_refresh_27 fl_X7_26 (by decide) rfl rfl ?_
      refine aw_iload_n C dX7_refresh_30 (i := 1) rfl rfl ?_
      refine aw_iconst C dX7_refresh_31 ki_3 ?_
      refine aw_V2i (k := 3) C dX7_refresh_32 cv_X7_40 (by decide) rfl rfl rfl (cb_numberOf hI (by omega)) ⟨Nat.le_of_ble_eq_true rfl, Nat.le_of_ble_eq_true rfl⟩ (Nat.le_of_ble_eq_true rfl) ?_
      refine aw_aload_n C dX7_refresh_35 (i := 0) rfl rfl ?_
      refine aw_get (k := 5) C dX7_refresh_36 fl_X7_26 (by decide) rfl rfl ?_
      refine aw_iload_n C dX7_refresh_39 (i := 1) rfl rfl ?_
      refine aw_iconst C dX7_refresh_40 ki_4 ?_
      refine aw_V2i (k := 3) C dX7_refresh_41 cv_X7_40 (by decide) rfl rfl rfl (cb_numberOf hI (by omega)) ⟨Nat.le_of_ble_eq_true rfl, Nat.le_of_ble_eq_true rfl⟩ (Nat.le_of_ble_eq_true rfl) ?_
      refine aw_V4v (k := 5) C dX7_refresh_44 cv_X7_44 (by decide) rfl rfl rfl (cb_fillHeightsh hI (by omega) (by omega) hs hs2) ⟨Nat.le_of_ble_eq_true rfl, Nat.le_of_ble_eq_true rfl⟩ (Nat.le_of_ble_eq_true rfl) ?_
      refine aw_iinc_n (lv' := [(0, _), (1, _)]) C dX7_refresh_47 rfl ki_1 (Nat.le_of_ble_eq_true rfl) rfl ?_
      refine aw_goto (tgt := 2) C dX7_refresh_50 (by decide) ?_
      refine ih (k + 1) _ _ (by omega) (by omega) (fun i hi y hy => ?_) (fun i hi y hy => ?_)
      · rcases Nat.lt_or_ge i k with g9 | g9
        · rw [va_up_ne _ _ (by omega)]
          exact iv1 i g9 y hy
        · obtain rfl : i = k := by omega
          rw [va_up_self, cpG_lt (by omega)]
          unfold plX plc
          rw [agr_w hA h10 (by omega), agr_w hA h10 (by omega), hA 43 (by omega)]
          rfl
      · rcases Nat.lt_or_ge i k with g9 | g9
        · rw [va_up_ne _ _ (by omega)]
          exact iv2 i g9 y hy
        · obtain rfl : i = k := by omega
          rw [va_up_self, cpG_lt (by omega)]
          show hg _ _ _ bsp y = _
          unfold hgt
          rw [agr_w hA h10 (by omega), agr_w hA h10 (by omega), agr_w hA h10 (by omega)]
set_option maxRecDepth 20000 in
/-- refresh -/
theorem cb_refresh {l : Launch} {D : va_G} {cy : Nat → ClassId} {z : Nat → Nat} {q : Nat → Nat} (hI : wI 49 q) {tl dsp dwi dat bsp bwi pnx phd vkn : Nat} {dff lbl lsh lpk : Int32} {lett : Nat → Nat} {num lim now : Nat → Int32} {prw plr hgr : Nat → Nat → Int32} {bk bd wio wys trl : Nat → Int32} {clr : Nat → Int64} {tld tie fst las saw : Nat → Int32} {h : Nat → Int32} (hA : agr now h bwi) (hs : 8 ≤ bsp) (hs2 : bsp ≤ 40) (hw : bwi ≤ 8) : Ct l yX7_refresh cX7_refresh 2 none 3 73 D cy z 49 q [.ref (q 5)] (bwC cy q tl dsp dwi dat bsp bwi pnx phd vkn dff lbl lsh lpk lett num lim now prw plr hgr bk bd wio wys trl clr tld tie fst las saw) (PY (fun g => ∃ p9 h9, g = (bwC cy q tl dsp dwi dat bsp bwi pnx phd 0 dff lbl lsh lpk lett num lim now prw p9 h9 bk bd wio wys trl clr tld tie fst las saw) ∧ vPl p9 h bsp bwi ∧ vHg h9 h bsp bwi)) := by
  refine Ct.of (own := RX7) (by decide) rfl hI (Nat.le_of_ble_eq_true rfl) ?_
  intro p e s m args below meth c C hr
  refine aw_lv (lv' := [(0, .ref (q 5))]) (fun x hx => hx) ?_
  refine aw_iconst C dX7_refresh_0 ki_0 ?_
  refine aw_istore_n (lv' := [(0, _), (1, _)]) C dX7_refresh_1 (i := 1) rfl (Nat.le_of_ble_eq_true rfl) rfl ?_
  exact cb_refresh_l hI C hr hA hs hs2 hw (bwi + 1) 0 _ _ (by omega) (by omega) (fun i hi => absurd hi (Nat.not_lt_zero i)) (fun i hi => absurd hi (Nat.not_lt_zero i))
set_option maxRecDepth 20000 in
/-- placeOf -/
theorem cb_placeOf {l : Launch} {D : va_G} {cy : Nat → ClassId} {z : Nat → Nat} {q : Nat → Nat} (hI : wI 49 q) {tl dsp dwi dat bsp bwi pnx phd vkn : Nat} {dff lbl lsh lpk : Int32} {lett : Nat → Nat} {num lim now : Nat → Int32} {prw plr hgr : Nat → Nat → Int32} {bk bd wio wys trl : Nat → Int32} {clr : Nat → Int64} {tld tie fst las saw : Nat → Int32} {i y : Nat} (hi : i < 8) (hy : y < 41) : Ct l yX7_placeOf cX7_placeOf 3 (some .int) 0 0 D cy z 49 q [.ref (q 5), .int (nI i), .int (nI y)] (bwC cy q tl dsp dwi dat bsp bwi pnx phd vkn dff lbl lsh lpk lett num lim now prw plr hgr bk bd wio wys trl clr tld tie fst las saw) (PI (plr i y) (bwC cy q tl dsp dwi dat bsp bwi pnx phd vkn dff lbl lsh lpk lett num lim now prw plr hgr bk bd wio wys trl clr tld tie fst las saw)) := by
  refine Ct.of (own := RX7) (by decide) rfl hI (Nat.le_of_ble_eq_true rfl) ?_
  intro p e s m args below meth c C hr
  refine aw_lv (lv' := [(0, .ref (q 5)), (1, .int (nI i)), (2, .int (nI y))]) (fun x hx => hx) ?_
  refine aw_aload_n C dX7_placeOf_0 (i := 0) rfl rfl ?_
  refine aw_get (k := 5) C dX7_placeOf_1 fl_X7_11 (by decide) rfl rfl ?_
  refine aw_iload_n C dX7_placeOf_4 (i := 1) rfl rfl ?_
  refine aw_aald (k := 20) (n := i) C dX7_placeOf_5 (by decide) rfl (rfl) (by omega) (by decide) rfl ?_
  refine aw_iload_n C dX7_placeOf_6 (i := 2) rfl rfl ?_
  refine aw_iald (k := (21 + i)) C dX7_placeOf_7 (by omega) (bw_r_plr (by omega)) (rfl) (by omega) (by decide) (rfl) ?_
  refine aw_iret C hr dX7_placeOf_8 ?_
  exact PI.mk rfl rfl
set_option maxRecDepth 20000 in
/-- heightOf -/
theorem cb_heightOf {l : Launch} {D : va_G} {cy : Nat → ClassId} {z : Nat → Nat} {q : Nat → Nat} (hI : wI 49 q) {tl dsp dwi dat bsp bwi pnx phd vkn : Nat} {dff lbl lsh lpk : Int32} {lett : Nat → Nat} {num lim now : Nat → Int32} {prw plr hgr : Nat → Nat → Int32} {bk bd wio wys trl : Nat → Int32} {clr : Nat → Int64} {tld tie fst las saw : Nat → Int32} {i y : Nat} (hi : i < 8) (hy : y < 41) : Ct l yX7_heightOf cX7_heightOf 3 (some .int) 0 0 D cy z 49 q [.ref (q 5), .int (nI i), .int (nI y)] (bwC cy q tl dsp dwi dat bsp bwi pnx phd vkn dff lbl lsh lpk lett num lim now prw plr hgr bk bd wio wys trl clr tld tie fst las saw) (PI (hgr i y) (bwC cy q tl dsp dwi dat bsp bwi pnx phd vkn dff lbl lsh lpk lett num lim now prw plr hgr bk bd wio wys trl clr tld tie fst las saw)) := by
  refine Ct.of (own := RX7) (by decide) rfl hI (Nat.le_of_ble_eq_true rfl) ?_
  intro p e s m args below meth c C hr
  refine aw_lv (lv' := [(0, .ref (q 5)), (1, .int (nI i)), (2, .int (nI y))]) (fun x hx => hx) ?_
  refine aw_aload_n C dX7_heightOf_0 (i := 0) rfl rfl ?_
  refine aw_get (k := 5) C dX7_heightOf_1 fl_X7_16 (by decide) rfl rfl ?_
  refine aw_iload_n C dX7_heightOf_4 (i := 1) rfl rfl ?_
  refine aw_aald (k := 29) (n := i) C dX7_heightOf_5 (by decide) rfl (rfl) (by omega) (by decide) rfl ?_
  refine aw_iload_n C dX7_heightOf_6 (i := 2) rfl rfl ?_
  refine aw_iald (k := (30 + i)) C dX7_heightOf_7 (by omega) (bw_r_hgr (by omega)) (rfl) (by omega) (by decide) (rfl) ?_
  refine aw_iret C hr dX7_heightOf_8 ?_
  exact PI.mk rfl rfl
set_option maxRecDepth 20000 in
/-- longOf, its loop -/
theorem cb_longOf_l {l : Launch} {D : va_G} {cy : Nat → ClassId} {z : Nat → Nat} {q : Nat → Nat} {p : Program} {e : Env} {s : State} {m : MethodId} {args : Array Value} {below : List Frame} {meth : Method} {c : Code} (hI : wI 49 q) (C : Cx p s m args meth c cX7_longOf 6 RX7 D cy z 49 q) (hr : meth.sig.returnType = (some .int)) {tl dsp dwi dat bsp bwi pnx phd vkn : Nat} {dff lbl lsh lpk : Int32} {lett : Nat → Nat} {num lim now : Nat → Int32} {prw plr hgr : Nat → Nat → Int32} {bk bd wio wys trl : Nat → Int32} {clr : Nat → Int64} {tld tie fst las saw : Nat → Int32} {i : Nat} (hi : i < bwi) {h : Nat → Int32} (hO : hOK h bwi) (hP : vPl plr h bsp bwi) (hH : vHg hgr h bsp bwi) (hs : 8 ≤ bsp) (hs2 : bsp ≤ 40) (hw : bwi ≤ 8) : ∀ (d : Nat) (y : Nat), bsp - y < d → (y ≤ bsp) → AW p l e { frames := 1, cells := 0, slots := 0, locals := 32 } s m args below meth c D 49 q 6 (MQ below (Qg D 49 q (PI (lng h bsp i) (bwC cy q tl dsp dwi dat bsp bwi pnx phd vkn dff lbl lsh lpk lett num lim now prw plr hgr bk bd wio wys trl clr tld tie fst las saw)) (wA 49 q s.heap.size)) args s 0 0 (wA 49 q s.heap.size)) (bwC cy q tl dsp dwi dat bsp bwi pnx phd vkn dff lbl lsh lpk lett num lim now prw plr hgr bk bd wio wys trl clr tld tie fst las saw) [(0, .ref (q 5)), (1, .int (nI i)), (2, .ref (q (30 + i))), (3, .int (nI bsp)), (4, .int (accI (nI bsp + dst (plc h bsp i 0) (plc h bsp i bsp) / nI bsp) (fun y => dst (hgt h bsp i y) (hgt h bsp i (y + 1))) y)), (5, .int (nI y))] 46 [] := by
  intro d
  induction d with
  | zero => intro y hd; exact absurd hd (Nat.not_lt_zero _)
  | succ d ih =>
    intro y hd iv0
    refine aw_iload C dX7_longOf_46 rfl ?_
    refine aw_iload_n C dX7_longOf_48 (i := 3) rfl rfl ?_
    refine aw_icmp_ge_n (tgt := 77) C dX7_longOf_49 (by decide) (by omega) (by omega) (fun h49 => ?_) (fun h49 => ?_)
    · refine aw_iload C dX7_longOf_77 rfl ?_
      refine aw_iret C hr dX7_longOf_79 ?_
      exact PI.mk (by rw [show y = bsp by omega]; rfl) rfl
    · refine aw_iload C dX7_longOf_52 rfl ?_
      refine aw_aload_n C dX7_longOf_54 (i := 2) rfl rfl ?_
      refine aw_iload C dX7_longOf_55 rfl ?_
      refine aw_iald (k := (30 + i)) C dX7_longOf_57 (by omega) (bw_r_hgr (by omega)) (rfl) (by omega) (by decide) (hH i (by omega) y (by omega)) ?_
      refine aw_aload_n C dX7_longOf_58 (i := 2) rfl rfl ?_
      refine aw_iload C dX7_longOf_59 rfl ?_
      refine aw_iconst C dX7_longOf_61 ki_1 ?_
      refine aw_iadd_n C dX7_longOf_62 ?_
      refine aw_iald (k := (30 + i)) C dX7_longOf_63 (by omega) (bw_r_hgr (by omega)) (rfl) (by omega) (by decide) (hH i (by omega) (y + 1) (by omega)) ?_
      refine aw_isub C dX7_longOf_64 ?_
      refine aw_abs C dX7_longOf_65 ca_X7_66 (Nat.le_of_ble_eq_true rfl) (Nat.le_of_ble_eq_true rfl) (Nat.le_of_ble_eq_true rfl) ?_
      rw [abs_dst (sm_hgt hO (by omega) hs hs2 (by omega)) (sm_hgt hO (by omega) hs hs2 (by omega))]
      refine aw_iadd C dX7_longOf_68 ?_
      refine aw_istore (lv' := [(0, _), (1, _), (2, _), (3, _), (4, _), (5, _)]) C dX7_longOf_69 (Nat.le_of_ble_eq_true rfl) rfl ?_
      refine aw_iinc_n (lv' := [(0, _), (1, _), (2, _), (3, _), (4, _), (5, _)]) C dX7_longOf_71 rfl ki_1 (Nat.le_of_ble_eq_true rfl) rfl ?_
      refine aw_goto (tgt := 46) C dX7_longOf_74 (by decide) ?_
      exact ih (y + 1) (by omega) (by omega)
set_option maxRecDepth 20000 in
/-- longOf -/
theorem cb_longOf {l : Launch} {D : va_G} {cy : Nat → ClassId} {z : Nat → Nat} {q : Nat → Nat} (hI : wI 49 q) {tl dsp dwi dat bsp bwi pnx phd vkn : Nat} {dff lbl lsh lpk : Int32} {lett : Nat → Nat} {num lim now : Nat → Int32} {prw plr hgr : Nat → Nat → Int32} {bk bd wio wys trl : Nat → Int32} {clr : Nat → Int64} {tld tie fst las saw : Nat → Int32} {i : Nat} (hi : i < bwi) {h : Nat → Int32} (hO : hOK h bwi) (hP : vPl plr h bsp bwi) (hH : vHg hgr h bsp bwi) (hs : 8 ≤ bsp) (hs2 : bsp ≤ 40) (hw : bwi ≤ 8) : Ct l yX7_longOf cX7_longOf 6 (some .int) 1 32 D cy z 49 q [.ref (q 5), .int (nI i)] (bwC cy q tl dsp dwi dat bsp bwi pnx phd vkn dff lbl lsh lpk lett num lim now prw plr hgr bk bd wio wys trl clr tld tie fst las saw) (PI (lng h bsp i) (bwC cy q tl dsp dwi dat bsp bwi pnx phd vkn dff lbl lsh lpk lett num lim now prw plr hgr bk bd wio wys trl clr tld tie fst las saw)) := by
  refine Ct.of (own := RX7) (by decide) rfl hI (Nat.le_of_ble_eq_true rfl) ?_
  intro p e s m args below meth c C hr
  refine aw_lv (lv' := [(0, .ref (q 5)), (1, .int (nI i))]) (fun x hx => hx) ?_
  refine aw_aload_n C dX7_longOf_0 (i := 0) rfl rfl ?_
  refine aw_get (k := 5) C dX7_longOf_1 fl_X7_16 (by decide) rfl rfl ?_
  refine aw_iload_n C dX7_longOf_4 (i := 1) rfl rfl ?_
  refine aw_aald (k := 29) (n := i) C dX7_longOf_5 (by decide) rfl (rfl) (by omega) (by decide) rfl ?_
  refine aw_astore_n (lv' := [(0, _), (1, _), (2, _)]) C dX7_longOf_6 (i := 2) rfl (Nat.le_of_ble_eq_true rfl) rfl ?_
  refine aw_aload_n C dX7_longOf_7 (i := 0) rfl rfl ?_
  refine aw_get (k := 5) C dX7_longOf_8 fl_X7_26 (by decide) rfl rfl ?_
  refine aw_get (k := 3) C dX7_longOf_11 fl_X7_56 (by decide) rfl rfl ?_
  refine aw_istore_n (lv' := [(0, _), (1, _), (2, _), (3, _)]) C dX7_longOf_14 (i := 3) rfl (Nat.le_of_ble_eq_true rfl) rfl ?_
  refine aw_iload_n C dX7_longOf_15 (i := 3) rfl rfl ?_
  refine aw_aload_n C dX7_longOf_16 (i := 0) rfl rfl ?_
  refine aw_get (k := 5) C dX7_longOf_17 fl_X7_11 (by decide) rfl rfl ?_
  refine aw_iload_n C dX7_longOf_20 (i := 1) rfl rfl ?_
  refine aw_aald (k := 20) (n := i) C dX7_longOf_21 (by decide) rfl (rfl) (by omega) (by decide) rfl ?_
  refine aw_iconst C dX7_longOf_22 ki_0 ?_
  refine aw_iald (k := (21 + i)) C dX7_longOf_23 (by omega) (bw_r_plr (by omega)) (rfl) (by omega) (by decide) (hP i (by omega) 0 (by omega)) ?_
  refine aw_aload_n C dX7_longOf_24 (i := 0) rfl rfl ?_
  refine aw_get (k := 5) C dX7_longOf_25 fl_X7_11 (by decide) rfl rfl ?_
  refine aw_iload_n C dX7_longOf_28 (i := 1) rfl rfl ?_
  refine aw_aald (k := 20) (n := i) C dX7_longOf_29 (by decide) rfl (rfl) (by omega) (by decide) rfl ?_
  refine aw_iload_n C dX7_longOf_30 (i := 3) rfl rfl ?_
  refine aw_iald (k := (21 + i)) C dX7_longOf_31 (by omega) (bw_r_plr (by omega)) (rfl) (by omega) (by decide) (hP i (by omega) bsp (by omega)) ?_
  refine aw_isub C dX7_longOf_32 ?_
  refine aw_abs C dX7_longOf_33 ca_X7_66 (Nat.le_of_ble_eq_true rfl) (Nat.le_of_ble_eq_true rfl) (Nat.le_of_ble_eq_true rfl) ?_
  rw [abs_dst (sm_plc hO (by omega) hs2 (by omega)) (sm_plc hO (by omega) hs2 (by omega))]
  refine aw_iload_n C dX7_longOf_36 (i := 3) rfl rfl ?_
  refine aw_S2i C dX7_longOf_37 cs_X7_63 (cb_cut hI) ⟨Nat.le_of_ble_eq_true rfl, Nat.le_of_ble_eq_true rfl⟩ (Nat.le_of_ble_eq_true rfl) ?_
  rw [cut_n (by omega) (by omega)]
  refine aw_iadd C dX7_longOf_40 ?_
  refine aw_istore (lv' := [(0, _), (1, _), (2, _), (3, _), (4, _)]) C dX7_longOf_41 (Nat.le_of_ble_eq_true rfl) rfl ?_
  refine aw_iconst C dX7_longOf_43 ki_0 ?_
  refine aw_istore (lv' := [(0, _), (1, _), (2, _), (3, _), (4, _), (5, _)]) C dX7_longOf_44 (Nat.le_of_ble_eq_true rfl) rfl ?_
  exact cb_longOf_l hI C hr hi hO hP hH hs hs2 hw (bsp + 1) 0 (by omega) (by omega)
set_option maxRecDepth 20000 in
/-- longOfAll, its loop -/
theorem cb_longOfAll_l {l : Launch} {D : va_G} {cy : Nat → ClassId} {z : Nat → Nat} {q : Nat → Nat} {p : Program} {e : Env} {s : State} {m : MethodId} {args : Array Value} {below : List Frame} {meth : Method} {c : Code} (hI : wI 49 q) (C : Cx p s m args meth c cX7_longOfAll 3 RX7 D cy z 49 q) (hr : meth.sig.returnType = (some .int)) {tl dsp dwi dat bsp bwi pnx phd vkn : Nat} {dff lbl lsh lpk : Int32} {lett : Nat → Nat} {num lim now : Nat → Int32} {prw plr hgr : Nat → Nat → Int32} {bk bd wio wys trl : Nat → Int32} {clr : Nat → Int64} {tld tie fst las saw : Nat → Int32} {h : Nat → Int32} (hO : hOK h bwi) (hP : vPl plr h bsp bwi) (hH : vHg hgr h bsp bwi) (hs : 8 ≤ bsp) (hs2 : bsp ≤ 40) (hw : bwi ≤ 8) : ∀ (d : Nat) (k : Nat), bwi - k < d → (k ≤ bwi) → AW p l e { frames := 2, cells := 0, slots := 0, locals := 57 } s m args below meth c D 49 q 3 (MQ below (Qg D 49 q (PI (accI (nI 0) (lng h bsp) bwi) (bwC cy q tl dsp dwi dat bsp bwi pnx phd vkn dff lbl lsh lpk lett num lim now prw plr hgr bk bd wio wys trl clr tld tie fst las saw)) (wA 49 q s.heap.size)) args s 0 0 (wA 49 q s.heap.size)) (bwC cy q tl dsp dwi dat bsp bwi pnx phd vkn dff lbl lsh lpk lett num lim now prw plr hgr bk bd wio wys trl clr tld tie fst las saw) [(0, .ref (q 5)), (1, .int (accI (nI 0) (lng h bsp) k)), (2, .int (nI k))] 4 [] := by
  intro d
  induction d with
  | zero => intro k hd; exact absurd hd (Nat.not_lt_zero _)
  | succ d ih =>
    intro k hd iv0
    refine aw_iload_n C dX7_longOfAll_4 (i := 2) rfl rfl ?_
    refine aw_aload_n C dX7_longOfAll_5 (i := 0) rfl rfl ?_
    refine aw_get (k := 5) C dX7_longOfAll_6 fl_X7_26 (by decide) rfl rfl ?_
    refine aw_get (k := 3) C dX7_longOfAll_9 fl_X7_30 (by decide) rfl rfl ?_
    refine aw_icmp_ge_n (tgt := 29) C dX7_longOfAll_12 (by decide) (by omega) (by omega) (fun h12 => ?_) (fun h12 => ?_)
    · refine aw_iload_n C dX7_longOfAll_29 (i := 1) rfl rfl ?_
      refine aw_iret C hr dX7_longOfAll_30 ?_
      exact PI.mk (by rw [show k = bwi by omega]) rfl
    · refine aw_iload_n C dX7_longOfAll_15 (i := 1) rfl rfl ?_
      refine aw_aload_n C dX7_longOfAll_16 (i := 0) rfl rfl ?_
      refine aw_iload_n C dX7_longOfAll_17 (i := 2) rfl rfl ?_
      refine aw_V1i (k := 5) C dX7_longOfAll_18 cv_X7_72 (by decide) rfl rfl rfl (cb_longOf hI (by omega) hO hP hH hs hs2 hw) ⟨Nat.le_of_ble_eq_true rfl, Nat.le_of_ble_eq_true rfl⟩ (Nat.le_of_ble_eq_true rfl) ?_
      refine aw_iadd C dX7_longOfAll_21 ?_
      refine aw_istore_n (lv' := [(0, _), (1, _), (2, _)]) C dX7_longOfAll_22 (i := 1) rfl (Nat.le_of_ble_eq_true rfl) rfl ?_
      refine aw_iinc_n (lv' := [(0, _), (1, _), (2, _)]) C dX7_longOfAll_23 rfl ki_1 (Nat.le_of_ble_eq_true rfl) rfl ?_
      refine aw_goto (tgt := 4) C dX7_longOfAll_26 (by decide) ?_
      exact ih (k + 1) (by omega) (by omega)
set_option maxRecDepth 20000 in
/-- longOfAll -/
theorem cb_longOfAll {l : Launch} {D : va_G} {cy : Nat → ClassId} {z : Nat → Nat} {q : Nat → Nat} (hI : wI 49 q) {tl dsp dwi dat bsp bwi pnx phd vkn : Nat} {dff lbl lsh lpk : Int32} {lett : Nat → Nat} {num lim now : Nat → Int32} {prw plr hgr : Nat → Nat → Int32} {bk bd wio wys trl : Nat → Int32} {clr : Nat → Int64} {tld tie fst las saw : Nat → Int32} {h : Nat → Int32} (hO : hOK h bwi) (hP : vPl plr h bsp bwi) (hH : vHg hgr h bsp bwi) (hs : 8 ≤ bsp) (hs2 : bsp ≤ 40) (hw : bwi ≤ 8) : Ct l yX7_longOfAll cX7_longOfAll 3 (some .int) 2 57 D cy z 49 q [.ref (q 5)] (bwC cy q tl dsp dwi dat bsp bwi pnx phd vkn dff lbl lsh lpk lett num lim now prw plr hgr bk bd wio wys trl clr tld tie fst las saw) (PI (accI (nI 0) (lng h bsp) bwi) (bwC cy q tl dsp dwi dat bsp bwi pnx phd vkn dff lbl lsh lpk lett num lim now prw plr hgr bk bd wio wys trl clr tld tie fst las saw)) := by
  refine Ct.of (own := RX7) (by decide) rfl hI (Nat.le_of_ble_eq_true rfl) ?_
  intro p e s m args below meth c C hr
  refine aw_lv (lv' := [(0, .ref (q 5))]) (fun x hx => hx) ?_
  refine aw_iconst C dX7_longOfAll_0 ki_0 ?_
  refine aw_istore_n (lv' := [(0, _), (1, _)]) C dX7_longOfAll_1 (i := 1) rfl (Nat.le_of_ble_eq_true rfl) rfl ?_
  refine aw_iconst C dX7_longOfAll_2 ki_0 ?_
  refine aw_istore_n (lv' := [(0, _), (1, _), (2, _)]) C dX7_longOfAll_3 (i := 2) rfl (Nat.le_of_ble_eq_true rfl) rfl ?_
  exact cb_longOfAll_l hI C hr hO hP hH hs hs2 hw (bwi + 1) 0 (by omega) (by omega)
set_option maxRecDepth 20000 in
/-- topRow, its loop -/
theorem cb_topRow_l {l : Launch} {D : va_G} {cy : Nat → ClassId} {z : Nat → Nat} {q : Nat → Nat} {p : Program} {e : Env} {s : State} {m : MethodId} {args : Array Value} {below : List Frame} {meth : Method} {c : Code} (hI : wI 49 q) (C : Cx p s m args meth c cX7_topRow 4 RX7 D cy z 49 q) (hr : meth.sig.returnType = (some .int)) {tl dsp dwi dat bsp bwi pnx phd vkn : Nat} {dff lbl lsh lpk : Int32} {lett : Nat → Nat} {num lim now : Nat → Int32} {prw plr hgr : Nat → Nat → Int32} {bk bd wio wys trl : Nat → Int32} {clr : Nat → Int64} {tld tie fst las saw : Nat → Int32} {i : Nat} (hi : i < bwi) {h : Nat → Int32} (hO : hOK h bwi) (hP : vPl plr h bsp bwi) (hH : vHg hgr h bsp bwi) (hs : 8 ≤ bsp) (hs2 : bsp ≤ 40) (hw : bwi ≤ 8) : ∀ (d : Nat) (y : Nat), bsp - y < d → (y ≤ bsp) → AW p l e { frames := 0, cells := 0, slots := 0, locals := 0 } s m args below meth c D 49 q 4 (MQ below (Qg D 49 q (PI (nI (topR h bsp i bsp)) (bwC cy q tl dsp dwi dat bsp bwi pnx phd vkn dff lbl lsh lpk lett num lim now prw plr hgr bk bd wio wys trl clr tld tie fst las saw)) (wA 49 q s.heap.size)) args s 0 0 (wA 49 q s.heap.size)) (bwC cy q tl dsp dwi dat bsp bwi pnx phd vkn dff lbl lsh lpk lett num lim now prw plr hgr bk bd wio wys trl clr tld tie fst las saw) [(0, .ref (q 5)), (1, .int (nI i)), (2, .int (nI (topR h bsp i y))), (3, .int (nI (y + 1)))] 4 [] := by
  intro d
  induction d with
  | zero => intro y hd; exact absurd hd (Nat.not_lt_zero _)
  | succ d ih =>
    intro y hd iv0
    refine aw_iload_n C dX7_topRow_4 (i := 3) rfl rfl ?_
    refine aw_aload_n C dX7_topRow_5 (i := 0) rfl rfl ?_
    refine aw_get (k := 5) C dX7_topRow_6 fl_X7_26 (by decide) rfl rfl ?_
    refine aw_get (k := 3) C dX7_topRow_9 fl_X7_56 (by decide) rfl rfl ?_
    refine aw_icmp_gt_n (tgt := 42) C dX7_topRow_12 (by decide) (by omega) (by omega) (fun h12 => ?_) (fun h12 => ?_)
    · refine aw_iload_n C dX7_topRow_42 (i := 2) rfl rfl ?_
      refine aw_iret C hr dX7_topRow_43 ?_
      exact PI.mk (by rw [show y = bsp by omega]) rfl
    · have ht := topR_le h bsp i y
      refine aw_aload_n C dX7_topRow_15 (i := 0) rfl rfl ?_
      refine aw_get (k := 5) C dX7_topRow_16 fl_X7_16 (by decide) rfl rfl ?_
      refine aw_iload_n C dX7_topRow_19 (i := 1) rfl rfl ?_
      refine aw_aald (k := 29) (n := i) C dX7_topRow_20 (by decide) rfl (rfl) (by omega) (by decide) rfl ?_
      refine aw_iload_n C dX7_topRow_21 (i := 3) rfl rfl ?_
      refine aw_iald (k := (30 + i)) C dX7_topRow_22 (by omega) (bw_r_hgr (by omega)) (rfl) (by omega) (by decide) (hH i (by omega) (y + 1) (by omega)) ?_
      refine aw_aload_n C dX7_topRow_23 (i := 0) rfl rfl ?_
      refine aw_get (k := 5) C dX7_topRow_24 fl_X7_16 (by decide) rfl rfl ?_
      refine aw_iload_n C dX7_topRow_27 (i := 1) rfl rfl ?_
      refine aw_aald (k := 29) (n := i) C dX7_topRow_28 (by decide) rfl (rfl) (by omega) (by decide) rfl ?_
      refine aw_iload_n C dX7_topRow_29 (i := 2) rfl rfl ?_
      refine aw_iald (k := (30 + i)) C dX7_topRow_30 (by omega) (bw_r_hgr (by omega)) (rfl) (by omega) (by decide) (hH i (by omega) (topR h bsp i y) (by omega)) ?_
      refine aw_icmp_le (tgt := 36) C dX7_topRow_31 (by decide) (fun h31 => ?_) (fun h31 => ?_)
      · refine aw_iinc_n (lv' := [(0, _), (1, _), (2, _), (3, _)]) C dX7_topRow_36 rfl ki_1 (Nat.le_of_ble_eq_true rfl) rfl ?_
        refine aw_goto (tgt := 4) C dX7_topRow_39 (by decide) ?_
        have e : topR h bsp i (y + 1) = topR h bsp i y := if_neg (i_nlt h31)
        have k9 := ih (y + 1) (by omega) (by omega)
        rw [e] at k9
        exact k9
      · refine aw_iload_n C dX7_topRow_34 (i := 3) rfl rfl ?_
        refine aw_istore_n (lv' := [(0, _), (1, _), (2, _), (3, _)]) C dX7_topRow_35 (i := 2) rfl (Nat.le_of_ble_eq_true rfl) rfl ?_
        refine aw_iinc_n (lv' := [(0, _), (1, _), (2, _), (3, _)]) C dX7_topRow_36 rfl ki_1 (Nat.le_of_ble_eq_true rfl) rfl ?_
        refine aw_goto (tgt := 4) C dX7_topRow_39 (by decide) ?_
        have e : topR h bsp i (y + 1) = y + 1 := if_pos (i_lt h31)
        have k9 := ih (y + 1) (by omega) (by omega)
        rw [e] at k9
        exact k9
set_option maxRecDepth 20000 in
/-- topRow -/
theorem cb_topRow {l : Launch} {D : va_G} {cy : Nat → ClassId} {z : Nat → Nat} {q : Nat → Nat} (hI : wI 49 q) {tl dsp dwi dat bsp bwi pnx phd vkn : Nat} {dff lbl lsh lpk : Int32} {lett : Nat → Nat} {num lim now : Nat → Int32} {prw plr hgr : Nat → Nat → Int32} {bk bd wio wys trl : Nat → Int32} {clr : Nat → Int64} {tld tie fst las saw : Nat → Int32} {i : Nat} (hi : i < bwi) {h : Nat → Int32} (hO : hOK h bwi) (hP : vPl plr h bsp bwi) (hH : vHg hgr h bsp bwi) (hs : 8 ≤ bsp) (hs2 : bsp ≤ 40) (hw : bwi ≤ 8) : Ct l yX7_topRow cX7_topRow 4 (some .int) 0 0 D cy z 49 q [.ref (q 5), .int (nI i)] (bwC cy q tl dsp dwi dat bsp bwi pnx phd vkn dff lbl lsh lpk lett num lim now prw plr hgr bk bd wio wys trl clr tld tie fst las saw) (PI (nI (topR h bsp i bsp)) (bwC cy q tl dsp dwi dat bsp bwi pnx phd vkn dff lbl lsh lpk lett num lim now prw plr hgr bk bd wio wys trl clr tld tie fst las saw)) := by
  refine Ct.of (own := RX7) (by decide) rfl hI (Nat.le_of_ble_eq_true rfl) ?_
  intro p e s m args below meth c C hr
  refine aw_lv (lv' := [(0, .ref (q 5)), (1, .int (nI i))]) (fun x hx => hx) ?_
  refine aw_iconst C dX7_topRow_0 ki_0 ?_
  refine aw_istore_n (lv' := [(0, _), (1, _), (2, _)]) C dX7_topRow_1 (i := 2) rfl (Nat.le_of_ble_eq_true rfl) rfl ?_
  refine aw_iconst C dX7_topRow_2 ki_1 ?_
  refine aw_istore_n (lv' := [(0, _), (1, _), (2, _), (3, _)]) C dX7_topRow_3 (i := 3) rfl (Nat.le_of_ble_eq_true rfl) rfl ?_
  exact cb_topRow_l hI C hr hi hO hP hH hs hs2 hw (bsp + 1) 0 (by omega) (by omega)
set_option maxRecDepth 20000 in
/-- closeAt -/
theorem cb_closeAt {l : Launch} {D : va_G} {cy : Nat → ClassId} {z : Nat → Nat} {q : Nat → Nat} (hI : wI 49 q) {tl dsp dwi dat bsp bwi pnx phd vkn : Nat} {dff lbl lsh lpk : Int32} {lett : Nat → Nat} {num lim now : Nat → Int32} {prw plr hgr : Nat → Nat → Int32} {bk bd wio wys trl : Nat → Int32} {clr : Nat → Int64} {tld tie fst las saw : Nat → Int32} {i k : Nat} (hi : i < bwi) (hk : k < bwi) {y : Nat} (hy : y ≤ bsp) {h : Nat → Int32} (hO : hOK h bwi) (hP : vPl plr h bsp bwi) (hH : vHg hgr h bsp bwi) (hA : agr now h bwi) (hs : 8 ≤ bsp) (hs2 : bsp ≤ 40) (hw : bwi ≤ 8) : Ct l yX7_closeAt cX7_closeAt 4 (some .boolean) 1 32 D cy z 49 q [.ref (q 5), .int (nI i), .int (nI k), .int (nI y)] (bwC cy q tl dsp dwi dat bsp bwi pnx phd vkn dff lbl lsh lpk lett num lim now prw plr hgr bk bd wio wys trl clr tld tie fst las saw) (PI (bi (clsB h bsp i k y)) (bwC cy q tl dsp dwi dat bsp bwi pnx phd vkn dff lbl lsh lpk lett num lim now prw plr hgr bk bd wio wys trl clr tld tie fst las saw)) := by
  refine Ct.of (own := RX7) (by decide) rfl hI (Nat.le_of_ble_eq_true rfl) ?_
  intro p e s m args below meth c C hr
  refine aw_lv (lv' := [(0, .ref (q 5)), (1, .int (nI i)), (2, .int (nI k)), (3, .int (nI y))]) (fun x hx => hx) ?_
  refine aw_aload_n C dX7_closeAt_0 (i := 0) rfl rfl ?_
  refine aw_get (k := 5) C dX7_closeAt_1 fl_X7_11 (by decide) rfl rfl ?_
  refine aw_iload_n C dX7_closeAt_4 (i := 1) rfl rfl ?_
  refine aw_aald (k := 20) (n := i) C dX7_closeAt_5 (by decide) rfl (rfl) (by omega) (by decide) rfl ?_
  refine aw_iload_n C dX7_closeAt_6 (i := 3) rfl rfl ?_
  refine aw_iald (k := (21 + i)) C dX7_closeAt_7 (by omega) (bw_r_plr (by omega)) (rfl) (by omega) (by decide) (hP i (by omega) y (by omega)) ?_
  refine aw_aload_n C dX7_closeAt_8 (i := 0) rfl rfl ?_
  refine aw_get (k := 5) C dX7_closeAt_9 fl_X7_11 (by decide) rfl rfl ?_
  refine aw_iload_n C dX7_closeAt_12 (i := 2) rfl rfl ?_
  refine aw_aald (k := 20) (n := k) C dX7_closeAt_13 (by decide) rfl (rfl) (by omega) (by decide) rfl ?_
  refine aw_iload_n C dX7_closeAt_14 (i := 3) rfl rfl ?_
  refine aw_iald (k := (21 + k)) C dX7_closeAt_15 (by omega) (bw_r_plr (by omega)) (rfl) (by omega) (by decide) (hP k (by omega) y (by omega)) ?_
  refine aw_isub C dX7_closeAt_16 ?_
  refine aw_abs C dX7_closeAt_17 ca_X7_66 (Nat.le_of_ble_eq_true rfl) (Nat.le_of_ble_eq_true rfl) (Nat.le_of_ble_eq_true rfl) ?_
  rw [abs_dst (sm_plc hO (by omega) hs2 (by omega)) (sm_plc hO (by omega) hs2 (by omega))]
  refine aw_aload_n C dX7_closeAt_20 (i := 0) rfl rfl ?_
  refine aw_get (k := 5) C dX7_closeAt_21 fl_X7_26 (by decide) rfl rfl ?_
  refine aw_iconst C dX7_closeAt_24 ki_0 ?_
  refine aw_V1i (k := 3) C dX7_closeAt_25 cv_X7_75 (by decide) rfl rfl rfl (cb_limitOf hI (by omega)) ⟨Nat.le_of_ble_eq_true rfl, Nat.le_of_ble_eq_true rfl⟩ (Nat.le_of_ble_eq_true rfl) ?_
  rw [hA 40 (by omega)]
  refine aw_aload_n C dX7_closeAt_28 (i := 0) rfl rfl ?_
  refine aw_get (k := 5) C dX7_closeAt_29 fl_X7_26 (by decide) rfl rfl ?_
  refine aw_get (k := 3) C dX7_closeAt_32 fl_X7_56 (by decide) rfl rfl ?_
  refine aw_imul C dX7_closeAt_35 ?_
  refine aw_icmp_ge (tgt := 43) C dX7_closeAt_36 (by decide) (fun h36 => ?_) (fun h36 => ?_)
  · refine aw_iconst C dX7_closeAt_43 ki_0 ?_
    refine aw_zret C hr dX7_closeAt_44 (by decide) ?_
    refine PI.mk (bi_g ?_) rfl
    unfold clsB
    simp only [Bool.and_eq_true, Bool.or_eq_true, decide_eq_true_eq, Int32.le_iff_toInt_le, Int32.lt_iff_toInt_lt] at h36 ⊢
    omega
  · refine aw_iconst C dX7_closeAt_39 ki_1 ?_
    refine aw_goto (tgt := 44) C dX7_closeAt_40 (by decide) ?_
    refine aw_zret C hr dX7_closeAt_44 (by decide) ?_
    refine PI.mk (bi_t ?_) rfl
    unfold clsB
    simp only [Bool.and_eq_true, Bool.or_eq_true, decide_eq_true_eq, Int32.le_iff_toInt_le, Int32.lt_iff_toInt_lt] at h36 ⊢
    omega
set_option maxRecDepth 20000 in
/-- nearAt -/
theorem cb_nearAt {l : Launch} {D : va_G} {cy : Nat → ClassId} {z : Nat → Nat} {q : Nat → Nat} (hI : wI 49 q) {tl dsp dwi dat bsp bwi pnx phd vkn : Nat} {dff lbl lsh lpk : Int32} {lett : Nat → Nat} {num lim now : Nat → Int32} {prw plr hgr : Nat → Nat → Int32} {bk bd wio wys trl : Nat → Int32} {clr : Nat → Int64} {tld tie fst las saw : Nat → Int32} {i k : Nat} (hi : i < bwi) (hk : k < bwi) {y : Nat} (hy : y ≤ bsp) {h : Nat → Int32} (hO : hOK h bwi) (hP : vPl plr h bsp bwi) (hH : vHg hgr h bsp bwi) (hA : agr now h bwi) (hs : 8 ≤ bsp) (hs2 : bsp ≤ 40) (hw : bwi ≤ 8) : Ct l yX7_nearAt cX7_nearAt 4 (some .boolean) 2 55 D cy z 49 q [.ref (q 5), .int (nI i), .int (nI k), .int (nI y)] (bwC cy q tl dsp dwi dat bsp bwi pnx phd vkn dff lbl lsh lpk lett num lim now prw plr hgr bk bd wio wys trl clr tld tie fst las saw) (PI (bi (nrA h bsp i k y)) (bwC cy q tl dsp dwi dat bsp bwi pnx phd vkn dff lbl lsh lpk lett num lim now prw plr hgr bk bd wio wys trl clr tld tie fst las saw)) := by
  refine Ct.of (own := RX7) (by decide) rfl hI (Nat.le_of_ble_eq_true rfl) ?_
  intro p e s m args below meth c C hr
  refine aw_lv (lv' := [(0, .ref (q 5)), (1, .int (nI i)), (2, .int (nI k)), (3, .int (nI y))]) (fun x hx => hx) ?_
  refine aw_aload_n C dX7_nearAt_0 (i := 0) rfl rfl ?_
  refine aw_iload_n C dX7_nearAt_1 (i := 1) rfl rfl ?_
  refine aw_iload_n C dX7_nearAt_2 (i := 2) rfl rfl ?_
  refine aw_iload_n C dX7_nearAt_3 (i := 3) rfl rfl ?_
  refine aw_V3i (k := 5) C dX7_nearAt_4 cv_X7_78 (by decide) rfl rfl rfl (cb_closeAt hI hi hk hy hO hP hH hA hs hs2 hw) ⟨Nat.le_of_ble_eq_true rfl, Nat.le_of_ble_eq_true rfl⟩ (Nat.le_of_ble_eq_true rfl) ?_
  refine aw_if_eq_b (tgt := 45) C dX7_nearAt_7 (by decide) (fun h7 => ?_) (fun h7 => ?_)
  · refine aw_iconst C dX7_nearAt_45 ki_0 ?_
    refine aw_zret C hr dX7_nearAt_46 (by decide) ?_
    exact PI.mk (bi_f (by show (clsB h bsp i k y && _) = _; rw [h7]; rfl)) rfl
  · refine aw_aload_n C dX7_nearAt_10 (i := 0) rfl rfl ?_
    refine aw_get (k := 5) C dX7_nearAt_11 fl_X7_16 (by decide) rfl rfl ?_
    refine aw_iload_n C dX7_nearAt_14 (i := 1) rfl rfl ?_
    refine aw_aald (k := 29) (n := i) C dX7_nearAt_15 (by decide) rfl (rfl) (by omega) (by decide) rfl ?_
    refine aw_iload_n C dX7_nearAt_16 (i := 3) rfl rfl ?_
    refine aw_iald (k := (30 + i)) C dX7_nearAt_17 (by omega) (bw_r_hgr (by omega)) (rfl) (by omega) (by decide) (hH i (by omega) y (by omega)) ?_
    refine aw_aload_n C dX7_nearAt_18 (i := 0) rfl rfl ?_
    refine aw_get (k := 5) C dX7_nearAt_19 fl_X7_16 (by decide) rfl rfl ?_
    refine aw_iload_n C dX7_nearAt_22 (i := 2) rfl rfl ?_
    refine aw_aald (k := 29) (n := k) C dX7_nearAt_23 (by decide) rfl (rfl) (by omega) (by decide) rfl ?_
    refine aw_iload_n C dX7_nearAt_24 (i := 3) rfl rfl ?_
    refine aw_iald (k := (30 + k)) C dX7_nearAt_25 (by omega) (bw_r_hgr (by omega)) (rfl) (by omega) (by decide) (hH k (by omega) y (by omega)) ?_
    refine aw_isub C dX7_nearAt_26 ?_
    refine aw_abs C dX7_nearAt_27 ca_X7_66 (Nat.le_of_ble_eq_true rfl) (Nat.le_of_ble_eq_true rfl) (Nat.le_of_ble_eq_true rfl) ?_
    rw [abs_dst (sm_hgt hO (by omega) hs hs2 (by omega)) (sm_hgt hO (by omega) hs hs2 (by omega))]
    refine aw_aload_n C dX7_nearAt_30 (i := 0) rfl rfl ?_
    refine aw_get (k := 5) C dX7_nearAt_31 fl_X7_26 (by decide) rfl rfl ?_
    refine aw_iconst C dX7_nearAt_34 ki_1 ?_
    refine aw_V1i (k := 3) C dX7_nearAt_35 cv_X7_75 (by decide) rfl rfl rfl (cb_limitOf hI (by omega)) ⟨Nat.le_of_ble_eq_true rfl, Nat.le_of_ble_eq_true rfl⟩ (Nat.le_of_ble_eq_true rfl) ?_
    rw [hA 41 (by omega)]
    refine aw_icmp_ge (tgt := 45) C dX7_nearAt_38 (by decide) (fun h38 => ?_) (fun h38 => ?_)
    · refine aw_iconst C dX7_nearAt_45 ki_0 ?_
      refine aw_zret C hr dX7_nearAt_46 (by decide) ?_
      exact PI.mk (bi_f (by show (clsB h bsp i k y && _) = _; rw [h7, decide_eq_false (i_nlt h38)]; rfl)) rfl
    · refine aw_iconst C dX7_nearAt_41 ki_1 ?_
      refine aw_goto (tgt := 46) C dX7_nearAt_42 (by decide) ?_
      refine aw_zret C hr dX7_nearAt_46 (by decide) ?_
      exact PI.mk (bi_t (by show (clsB h bsp i k y && _) = _; rw [h7, decide_eq_true (i_lt h38)]; rfl)) rfl
set_option maxRecDepth 20000 in
/-- firstNear, its loop -/
theorem cb_firstNear_l {l : Launch} {D : va_G} {cy : Nat → ClassId} {z : Nat → Nat} {q : Nat → Nat} {p : Program} {e : Env} {s : State} {m : MethodId} {args : Array Value} {below : List Frame} {meth : Method} {c : Code} (hI : wI 49 q) (C : Cx p s m args meth c cX7_firstNear 4 RX7 D cy z 49 q) (hr : meth.sig.returnType = (some .int)) {tl dsp dwi dat bsp bwi pnx phd vkn : Nat} {dff lbl lsh lpk : Int32} {lett : Nat → Nat} {num lim now : Nat → Int32} {prw plr hgr : Nat → Nat → Int32} {bk bd wio wys trl : Nat → Int32} {clr : Nat → Int64} {tld tie fst las saw : Nat → Int32} {i k : Nat} (hi : i < bwi) (hk : k < bwi) {h : Nat → Int32} (hO : hOK h bwi) (hP : vPl plr h bsp bwi) (hH : vHg hgr h bsp bwi) (hA : agr now h bwi) (hs : 8 ≤ bsp) (hs2 : bsp ≤ 40) (hw : bwi ≤ 8) : ∀ (d : Nat) (y : Nat), bsp + 1 - y < d → (y ≤ bsp + 1) → (∀ j, j < y → nrA h bsp i k j = false) → AW p l e { frames := 3, cells := 0, slots := 0, locals := 78 } s m args below meth c D 49 q 4 (MQ below (Qg D 49 q (PI (nrF h bsp i k) (bwC cy q tl dsp dwi dat bsp bwi pnx phd vkn dff lbl lsh lpk lett num lim now prw plr hgr bk bd wio wys trl clr tld tie fst las saw)) (wA 49 q s.heap.size)) args s 0 0 (wA 49 q s.heap.size)) (bwC cy q tl dsp dwi dat bsp bwi pnx phd vkn dff lbl lsh lpk lett num lim now prw plr hgr bk bd wio wys trl clr tld tie fst las saw) [(0, .ref (q 5)), (1, .int (nI i)), (2, .int (nI k)), (3, .int (nI y))] 2 [] := by
  intro d
  induction d with
  | zero => intro y hd; exact absurd hd (Nat.not_lt_zero _)
  | succ d ih =>
    intro y hd iv0 iv1
    refine aw_iload_n C dX7_firstNear_2 (i := 3) rfl rfl ?_
    refine aw_aload_n C dX7_firstNear_3 (i := 0) rfl rfl ?_
    refine aw_get (k := 5) C dX7_firstNear_4 fl_X7_26 (by decide) rfl rfl ?_
    refine aw_get (k := 3) C dX7_firstNear_7 fl_X7_56 (by decide) rfl rfl ?_
    refine aw_icmp_gt_n (tgt := 31) C dX7_firstNear_10 (by decide) (by omega) (by omega) (fun h10 => ?_) (fun h10 => ?_)
    · refine aw_bipush C dX7_firstNear_31 kb_m4 ?_
      refine aw_iret C hr dX7_firstNear_33 ?_
      exact PI.mk (by unfold nrF; rw [fstB_none (fun j hj => iv1 j (by omega))]) rfl
    · refine aw_aload_n C dX7_firstNear_13 (i := 0) rfl rfl ?_
      refine aw_iload_n C dX7_firstNear_14 (i := 1) rfl rfl ?_
      refine aw_iload_n C dX7_firstNear_15 (i := 2) rfl rfl ?_
      refine aw_iload_n C dX7_firstNear_16 (i := 3) rfl rfl ?_
      refine aw_V3i (k := 5) C dX7_firstNear_17 cv_X7_82 (by decide) rfl rfl rfl (cb_nearAt hI hi hk (by omega) hO hP hH hA hs hs2 hw) ⟨Nat.le_of_ble_eq_true rfl, Nat.le_of_ble_eq_true rfl⟩ (Nat.le_of_ble_eq_true rfl) ?_
      refine aw_if_eq_b (tgt := 25) C dX7_firstNear_20 (by decide) (fun h20 => ?_) (fun h20 => ?_)
      · refine aw_iinc_n (lv' := [(0, _), (1, _), (2, _), (3, _)]) C dX7_firstNear_25 rfl ki_1 (Nat.le_of_ble_eq_true rfl) rfl ?_
        refine aw_goto (tgt := 2) C dX7_firstNear_28 (by decide) ?_
        exact ih (y + 1) (by omega) (by omega) (fun j hj => by rcases Nat.lt_or_ge j y with g | g; exact iv1 j g; rw [show j = y by omega]; exact h20)
      · refine aw_iload_n C dX7_firstNear_23 (i := 3) rfl rfl ?_
        refine aw_iret C hr dX7_firstNear_24 ?_
        exact PI.mk (by unfold nrF; rw [fstB_at (k := y) (by omega) iv1 h20]) rfl
set_option maxRecDepth 20000 in
/-- firstNear -/
theorem cb_firstNear {l : Launch} {D : va_G} {cy : Nat → ClassId} {z : Nat → Nat} {q : Nat → Nat} (hI : wI 49 q) {tl dsp dwi dat bsp bwi pnx phd vkn : Nat} {dff lbl lsh lpk : Int32} {lett : Nat → Nat} {num lim now : Nat → Int32} {prw plr hgr : Nat → Nat → Int32} {bk bd wio wys trl : Nat → Int32} {clr : Nat → Int64} {tld tie fst las saw : Nat → Int32} {i k : Nat} (hi : i < bwi) (hk : k < bwi) {h : Nat → Int32} (hO : hOK h bwi) (hP : vPl plr h bsp bwi) (hH : vHg hgr h bsp bwi) (hA : agr now h bwi) (hs : 8 ≤ bsp) (hs2 : bsp ≤ 40) (hw : bwi ≤ 8) : Ct l yX7_firstNear cX7_firstNear 4 (some .int) 3 78 D cy z 49 q [.ref (q 5), .int (nI i), .int (nI k)] (bwC cy q tl dsp dwi dat bsp bwi pnx phd vkn dff lbl lsh lpk lett num lim now prw plr hgr bk bd wio wys trl clr tld tie fst las saw) (PI (nrF h bsp i k) (bwC cy q tl dsp dwi dat bsp bwi pnx phd vkn dff lbl lsh lpk lett num lim now prw plr hgr bk bd wio wys trl clr tld tie fst las saw)) := by
  refine Ct.of (own := RX7) (by decide) rfl hI (Nat.le_of_ble_eq_true rfl) ?_
  intro p e s m args below meth c C hr
  refine aw_lv (lv' := [(0, .ref (q 5)), (1, .int (nI i)), (2, .int (nI k))]) (fun x hx => hx) ?_
  refine aw_iconst C dX7_firstNear_0 ki_0 ?_
  refine aw_istore_n (lv' := [(0, _), (1, _), (2, _), (3, _)]) C dX7_firstNear_1 (i := 3) rfl (Nat.le_of_ble_eq_true rfl) rfl ?_
  exact cb_firstNear_l hI C hr hi hk hO hP hH hA hs hs2 hw (bsp + 2) 0 (by omega) (by omega) (fun j hj => absurd hj (Nat.not_lt_zero j))
set_option maxRecDepth 20000 in
/-- nearRows, its loop -/
theorem cb_nearRows_l {l : Launch} {D : va_G} {cy : Nat → ClassId} {z : Nat → Nat} {q : Nat → Nat} {p : Program} {e : Env} {s : State} {m : MethodId} {args : Array Value} {below : List Frame} {meth : Method} {c : Code} (hI : wI 49 q) (C : Cx p s m args meth c cX7_nearRows 5 RX7 D cy z 49 q) (hr : meth.sig.returnType = (some .int)) {tl dsp dwi dat bsp bwi pnx phd vkn : Nat} {dff lbl lsh lpk : Int32} {lett : Nat → Nat} {num lim now : Nat → Int32} {prw plr hgr : Nat → Nat → Int32} {bk bd wio wys trl : Nat → Int32} {clr : Nat → Int64} {tld tie fst las saw : Nat → Int32} {i k : Nat} (hi : i < bwi) (hk : k < bwi) {h : Nat → Int32} (hO : hOK h bwi) (hP : vPl plr h bsp bwi) (hH : vHg hgr h bsp bwi) (hA : agr now h bwi) (hs : 8 ≤ bsp) (hs2 : bsp ≤ 40) (hw : bwi ≤ 8) : ∀ (d : Nat) (y : Nat), bsp + 1 - y < d → (y ≤ bsp + 1) → AW p l e { frames := 3, cells := 0, slots := 0, locals := 78 } s m args below meth c D 49 q 5 (MQ below (Qg D 49 q (PI (nI (nrC h bsp i k)) (bwC cy q tl dsp dwi dat bsp bwi pnx phd vkn dff lbl lsh lpk lett num lim now prw plr hgr bk bd wio wys trl clr tld tie fst las saw)) (wA 49 q s.heap.size)) args s 0 0 (wA 49 q s.heap.size)) (bwC cy q tl dsp dwi dat bsp bwi pnx phd vkn dff lbl lsh lpk lett num lim now prw plr hgr bk bd wio wys trl clr tld tie fst las saw) [(0, .ref (q 5)), (1, .int (nI i)), (2, .int (nI k)), (3, .int (nI (cntB (nrA h bsp i k) y))), (4, .int (nI y))] 5 [] := by
  intro d
  induction d with
  | zero => intro y hd; exact absurd hd (Nat.not_lt_zero _)
  | succ d ih =>
    intro y hd iv0
    refine aw_iload C dX7_nearRows_5 rfl ?_
    refine aw_aload_n C dX7_nearRows_7 (i := 0) rfl rfl ?_
    refine aw_get (k := 5) C dX7_nearRows_8 fl_X7_26 (by decide) rfl rfl ?_
    refine aw_get (k := 3) C dX7_nearRows_11 fl_X7_56 (by decide) rfl rfl ?_
    refine aw_icmp_gt_n (tgt := 37) C dX7_nearRows_14 (by decide) (by omega) (by omega) (fun h14 => ?_) (fun h14 => ?_)
    · refine aw_iload_n C dX7_nearRows_37 (i := 3) rfl rfl ?_
      refine aw_iret C hr dX7_nearRows_38 ?_
      exact PI.mk (by rw [show y = bsp + 1 by omega]; rfl) rfl
    · refine aw_aload_n C dX7_nearRows_17 (i := 0) rfl rfl ?_
      refine aw_iload_n C dX7_nearRows_18 (i := 1) rfl rfl ?_
      refine aw_iload_n C dX7_nearRows_19 (i := 2) rfl rfl ?_
      refine aw_iload C dX7_nearRows_20 rfl ?_
      refine aw_V3i (k := 5) C dX7_nearRows_22 cv_X7_82 (by decide) rfl rfl rfl (cb_nearAt hI hi hk (by omega) hO hP hH hA hs hs2 hw) ⟨Nat.le_of_ble_eq_true rfl, Nat.le_of_ble_eq_true rfl⟩ (Nat.le_of_ble_eq_true rfl) ?_
      refine aw_if_eq_b (tgt := 31) C dX7_nearRows_25 (by decide) (fun h25 => ?_) (fun h25 => ?_)
      · refine aw_iinc_n (lv' := [(0, _), (1, _), (2, _), (3, _), (4, _)]) C dX7_nearRows_31 rfl ki_1 (Nat.le_of_ble_eq_true rfl) rfl ?_
        refine aw_goto (tgt := 5) C dX7_nearRows_34 (by decide) ?_
        have e := cntB_n h25
        have k9 := ih (y + 1) (by omega) (by omega)
        rw [e] at k9
        exact k9
      · refine aw_iinc_n (lv' := [(0, _), (1, _), (2, _), (3, _), (4, _)]) C dX7_nearRows_28 rfl ki_1 (Nat.le_of_ble_eq_true rfl) rfl ?_
        refine aw_iinc_n (lv' := [(0, _), (1, _), (2, _), (3, _), (4, _)]) C dX7_nearRows_31 rfl ki_1 (Nat.le_of_ble_eq_true rfl) rfl ?_
        refine aw_goto (tgt := 5) C dX7_nearRows_34 (by decide) ?_
        have e := cntB_t h25
        have k9 := ih (y + 1) (by omega) (by omega)
        rw [e] at k9
        exact k9
set_option maxRecDepth 20000 in
/-- nearRows -/
theorem cb_nearRows {l : Launch} {D : va_G} {cy : Nat → ClassId} {z : Nat → Nat} {q : Nat → Nat} (hI : wI 49 q) {tl dsp dwi dat bsp bwi pnx phd vkn : Nat} {dff lbl lsh lpk : Int32} {lett : Nat → Nat} {num lim now : Nat → Int32} {prw plr hgr : Nat → Nat → Int32} {bk bd wio wys trl : Nat → Int32} {clr : Nat → Int64} {tld tie fst las saw : Nat → Int32} {i k : Nat} (hi : i < bwi) (hk : k < bwi) {h : Nat → Int32} (hO : hOK h bwi) (hP : vPl plr h bsp bwi) (hH : vHg hgr h bsp bwi) (hA : agr now h bwi) (hs : 8 ≤ bsp) (hs2 : bsp ≤ 40) (hw : bwi ≤ 8) : Ct l yX7_nearRows cX7_nearRows 5 (some .int) 3 78 D cy z 49 q [.ref (q 5), .int (nI i), .int (nI k)] (bwC cy q tl dsp dwi dat bsp bwi pnx phd vkn dff lbl lsh lpk lett num lim now prw plr hgr bk bd wio wys trl clr tld tie fst las saw) (PI (nI (nrC h bsp i k)) (bwC cy q tl dsp dwi dat bsp bwi pnx phd vkn dff lbl lsh lpk lett num lim now prw plr hgr bk bd wio wys trl clr tld tie fst las saw)) := by
  refine Ct.of (own := RX7) (by decide) rfl hI (Nat.le_of_ble_eq_true rfl) ?_
  intro p e s m args below meth c C hr
  refine aw_lv (lv' := [(0, .ref (q 5)), (1, .int (nI i)), (2, .int (nI k))]) (fun x hx => hx) ?_
  refine aw_iconst C dX7_nearRows_0 ki_0 ?_
  refine aw_istore_n (lv' := [(0, _), (1, _), (2, _), (3, _)]) C dX7_nearRows_1 (i := 3) rfl (Nat.le_of_ble_eq_true rfl) rfl ?_
  refine aw_iconst C dX7_nearRows_2 ki_0 ?_
  refine aw_istore (lv' := [(0, _), (1, _), (2, _), (3, _), (4, _)]) C dX7_nearRows_3 (Nat.le_of_ble_eq_true rfl) rfl ?_
  exact cb_nearRows_l hI C hr hi hk hO hP hH hA hs hs2 hw (bsp + 2) 0 (by omega) (by omega)
set_option maxRecDepth 20000 in
/-- cross -/
theorem cb_cross {l : Launch} {D : va_G} {cy : Nat → ClassId} {z : Nat → Nat} {q : Nat → Nat} (hI : wI 49 q) {tl dsp dwi dat bsp bwi pnx phd vkn : Nat} {dff lbl lsh lpk : Int32} {lett : Nat → Nat} {num lim now : Nat → Int32} {prw plr hgr : Nat → Nat → Int32} {bk bd wio wys trl : Nat → Int32} {clr : Nat → Int64} {tld tie fst las saw : Nat → Int32} {i k : Nat} (hi : i < bwi) (hk : k < bwi) {h : Nat → Int32} (hO : hOK h bwi) (hP : vPl plr h bsp bwi) (hH : vHg hgr h bsp bwi) (hs : 8 ≤ bsp) (hs2 : bsp ≤ 40) (hw : bwi ≤ 8) : Ct l yX7_cross cX7_cross 5 (some .boolean) 1 21 D cy z 49 q [.ref (q 5), .int (nI i), .int (nI k)] (bwC cy q tl dsp dwi dat bsp bwi pnx phd vkn dff lbl lsh lpk lett num lim now prw plr hgr bk bd wio wys trl clr tld tie fst las saw) (PI (bi (crs h bsp i k)) (bwC cy q tl dsp dwi dat bsp bwi pnx phd vkn dff lbl lsh lpk lett num lim now prw plr hgr bk bd wio wys trl clr tld tie fst las saw)) := by
  refine Ct.of (own := RX7) (by decide) rfl hI (Nat.le_of_ble_eq_true rfl) ?_
  intro p e s m args below meth c C hr
  refine aw_lv (lv' := [(0, .ref (q 5)), (1, .int (nI i)), (2, .int (nI k))]) (fun x hx => hx) ?_
  refine aw_aload_n C dX7_cross_0 (i := 0) rfl rfl ?_
  refine aw_get (k := 5) C dX7_cross_1 fl_X7_11 (by decide) rfl rfl ?_
  refine aw_iload_n C dX7_cross_4 (i := 1) rfl rfl ?_
  refine aw_aald (k := 20) (n := i) C dX7_cross_5 (by decide) rfl (rfl) (by omega) (by decide) rfl ?_
  refine aw_iconst C dX7_cross_6 ki_0 ?_
  refine aw_iald (k := (21 + i)) C dX7_cross_7 (by omega) (bw_r_plr (by omega)) (rfl) (by omega) (by decide) (hP i (by omega) 0 (by omega)) ?_
  refine aw_aload_n C dX7_cross_8 (i := 0) rfl rfl ?_
  refine aw_get (k := 5) C dX7_cross_9 fl_X7_11 (by decide) rfl rfl ?_
  refine aw_iload_n C dX7_cross_12 (i := 2) rfl rfl ?_
  refine aw_aald (k := 20) (n := k) C dX7_cross_13 (by decide) rfl (rfl) (by omega) (by decide) rfl ?_
  refine aw_iconst C dX7_cross_14 ki_0 ?_
  refine aw_iald (k := (21 + k)) C dX7_cross_15 (by omega) (bw_r_plr (by omega)) (rfl) (by omega) (by decide) (hP k (by omega) 0 (by omega)) ?_
  refine aw_S2i C dX7_cross_16 cs_X7_85 (cb_compare hI) ⟨Nat.le_of_ble_eq_true rfl, Nat.le_of_ble_eq_true rfl⟩ (Nat.le_of_ble_eq_true rfl) ?_
  refine aw_istore_n (lv' := [(0, _), (1, _), (2, _), (3, _)]) C dX7_cross_19 (i := 3) rfl (Nat.le_of_ble_eq_true rfl) rfl ?_
  refine aw_aload_n C dX7_cross_20 (i := 0) rfl rfl ?_
  refine aw_get (k := 5) C dX7_cross_21 fl_X7_11 (by decide) rfl rfl ?_
  refine aw_iload_n C dX7_cross_24 (i := 1) rfl rfl ?_
  refine aw_aald (k := 20) (n := i) C dX7_cross_25 (by decide) rfl (rfl) (by omega) (by decide) rfl ?_
  refine aw_aload_n C dX7_cross_26 (i := 0) rfl rfl ?_
  refine aw_get (k := 5) C dX7_cross_27 fl_X7_26 (by decide) rfl rfl ?_
  refine aw_get (k := 3) C dX7_cross_30 fl_X7_56 (by decide) rfl rfl ?_
  refine aw_iald (k := (21 + i)) C dX7_cross_33 (by omega) (bw_r_plr (by omega)) (rfl) (by omega) (by decide) (hP i (by omega) bsp (by omega)) ?_
  refine aw_aload_n C dX7_cross_34 (i := 0) rfl rfl ?_
  refine aw_get (k := 5) C dX7_cross_35 fl_X7_11 (by decide) rfl rfl ?_
  refine aw_iload_n C dX7_cross_38 (i := 2) rfl rfl ?_
  refine aw_aald (k := 20) (n := k) C dX7_cross_39 (by decide) rfl (rfl) (by omega) (by decide) rfl ?_
  refine aw_aload_n C dX7_cross_40 (i := 0) rfl rfl ?_
  refine aw_get (k := 5) C dX7_cross_41 fl_X7_26 (by decide) rfl rfl ?_
  refine aw_get (k := 3) C dX7_cross_44 fl_X7_56 (by decide) rfl rfl ?_
  refine aw_iald (k := (21 + k)) C dX7_cross_47 (by omega) (bw_r_plr (by omega)) (rfl) (by omega) (by decide) (hP k (by omega) bsp (by omega)) ?_
  refine aw_S2i C dX7_cross_48 cs_X7_85 (cb_compare hI) ⟨Nat.le_of_ble_eq_true rfl, Nat.le_of_ble_eq_true rfl⟩ (Nat.le_of_ble_eq_true rfl) ?_
  refine aw_istore (lv' := [(0, _), (1, _), (2, _), (3, _), (4, _)]) C dX7_cross_51 (Nat.le_of_ble_eq_true rfl) rfl ?_
  refine aw_iload_n C dX7_cross_53 (i := 3) rfl rfl ?_
  refine aw_iload C dX7_cross_54 rfl ?_
  refine aw_imul C dX7_cross_56 ?_
  refine aw_if_ge (tgt := 64) C dX7_cross_57 (by decide) (fun h57 => ?_) (fun h57 => ?_)
  · refine aw_iconst C dX7_cross_64 ki_0 ?_
    refine aw_zret C hr dX7_cross_65 (by decide) ?_
    have e9 := cmp_crs (a := plc h bsp i 0) (b := plc h bsp k 0) (c := plc h bsp i bsp) (d := plc h bsp k bsp) (sm_plc hO (by omega) hs2 (by omega)) (sm_plc hO (by omega) hs2 (by omega)) (sm_plc hO (by omega) hs2 (by omega)) (sm_plc hO (by omega) hs2 (by omega))
    exact PI.mk (bi_f (by unfold crs; rw [← e9]; exact decide_eq_false (i_nlt h57))) rfl
  · refine aw_iconst C dX7_cross_60 ki_1 ?_
    refine aw_goto (tgt := 65) C dX7_cross_61 (by decide) ?_
    refine aw_zret C hr dX7_cross_65 (by decide) ?_
    have e9 := cmp_crs (a := plc h bsp i 0) (b := plc h bsp k 0) (c := plc h bsp i bsp) (d := plc h bsp k bsp) (sm_plc hO (by omega) hs2 (by omega)) (sm_plc hO (by omega) hs2 (by omega)) (sm_plc hO (by omega) hs2 (by omega)) (sm_plc hO (by omega) hs2 (by omega))
    exact PI.mk (bi_t (by unfold crs; rw [← e9]; exact decide_eq_true (i_lt h57))) rfl
set_option maxRecDepth 20000 in
/-- nearPairs, its loop -/
theorem cb_nearPairs_i {l : Launch} {D : va_G} {cy : Nat → ClassId} {z : Nat → Nat} {q : Nat → Nat} {p : Program} {e : Env} {s : State} {m : MethodId} {args : Array Value} {below : List Frame} {meth : Method} {c : Code} {Q : State → Prop} (hI : wI 49 q) (C : Cx p s m args meth c cX7_nearPairs 4 RX7 D cy z 49 q) (hr : meth.sig.returnType = (some .int)) {tl dsp dwi dat bsp bwi pnx phd vkn : Nat} {dff lbl lsh lpk : Int32} {lett : Nat → Nat} {num lim now : Nat → Int32} {prw plr hgr : Nat → Nat → Int32} {bk bd wio wys trl : Nat → Int32} {clr : Nat → Int64} {tld tie fst las saw : Nat → Int32} {i a : Nat} (hi : i < bwi) (ha : a ≤ 100) {h : Nat → Int32} (hO : hOK h bwi) (hP : vPl plr h bsp bwi) (hH : vHg hgr h bsp bwi) (hA : agr now h bwi) (hs : 8 ≤ bsp) (hs2 : bsp ≤ 40) (hw : bwi ≤ 8) (K : AW p l e { frames := 4, cells := 0, slots := 0, locals := 101 } s m args below meth c D 49 q 4 Q (bwC cy q tl dsp dwi dat bsp bwi pnx phd vkn dff lbl lsh lpk lett num lim now prw plr hgr bk bd wio wys trl clr tld tie fst las saw) [(0, .ref (q 5)), (1, .int (nI (a + cntB ((pr6 h bsp) i) bwi))), (2, .int (nI i)), (3, .int (nI (bwi)))] 50 []) : ∀ (d : Nat) (k : Nat), bwi - k < d → (i < k ∧ k ≤ bwi) → AW p l e { frames := 4, cells := 0, slots := 0, locals := 101 } s m args below meth c D 49 q 4 Q (bwC cy q tl dsp dwi dat bsp bwi pnx phd vkn dff lbl lsh lpk lett num lim now prw plr hgr bk bd wio wys trl clr tld tie fst las saw) [(0, .ref (q 5)), (1, .int (nI (a + cntB ((pr6 h bsp) i) k))), (2, .int (nI i)), (3, .int (nI (k)))] 19 [] := by
  intro d
  induction d with
  | zero => intro k hd; exact absurd hd (Nat.not_lt_zero _)
  | succ d ih =>
    intro k hd iv0
    refine aw_iload_n C dX7_nearPairs_19 (i := 3) rfl rfl ?_
    refine aw_aload_n C dX7_nearPairs_20 (i := 0) rfl rfl ?_
    refine aw_get (k := 5) C dX7_nearPairs_21 fl_X7_26 (by decide) rfl rfl ?_
    refine aw_get (k := 3) C dX7_nearPairs_24 fl_X7_30 (by decide) rfl rfl ?_
    refine aw_icmp_ge_n (tgt := 50) C dX7_nearPairs_27 (by decide) (by omega) (by omega) (fun h27 => ?_) (fun h27 => ?_)
    · obtain rfl : k = bwi := by omega
      exact K
    · have hcb := cntB_le ((pr6 h bsp) i) k
      have hik : i < k := iv0.1
      refine aw_aload_n C dX7_nearPairs_30 (i := 0) rfl rfl ?_
      refine aw_iload_n C dX7_nearPairs_31 (i := 2) rfl rfl ?_
      refine aw_iload_n C dX7_nearPairs_32 (i := 3) rfl rfl ?_
      refine aw_V2i (k := 5) C dX7_nearPairs_33 cv_X7_90 (by decide) rfl rfl rfl (cb_firstNear hI (by omega) (by omega) hO hP hH hA hs hs2 hw) ⟨Nat.le_of_ble_eq_true rfl, Nat.le_of_ble_eq_true rfl⟩ (Nat.le_of_ble_eq_true rfl) ?_
      refine aw_bipush C dX7_nearPairs_36 kb_m4 ?_
      refine aw_icmp_eq (tgt := 44) C dX7_nearPairs_38 (by decide) (fun h38 => ?_) (fun h38 => ?_)
      · refine aw_iinc_n (lv' := [(0, _), (1, _), (2, _), (3, _)]) C dX7_nearPairs_44 rfl ki_1 (Nat.le_of_ble_eq_true rfl) rfl ?_
        refine aw_goto (tgt := 19) C dX7_nearPairs_47 (by decide) ?_
        have e9 := cntB_n (n := k) (p := pr6 h bsp i) (by unfold pr6; rw [nrF_none h38]; simp)
        have k9 := ih (k + 1) (by omega) (by omega)
        rw [e9] at k9
        exact k9
      · refine aw_iinc_n (lv' := [(0, _), (1, _), (2, _), (3, _)]) C dX7_nearPairs_41 rfl ki_1 (Nat.le_of_ble_eq_true rfl) rfl ?_
        refine aw_iinc_n (lv' := [(0, _), (1, _), (2, _), (3, _)]) C dX7_nearPairs_44 rfl ki_1 (Nat.le_of_ble_eq_true rfl) rfl ?_
        refine aw_goto (tgt := 19) C dX7_nearPairs_47 (by decide) ?_
        have e9 := cntB_t (n := k) (p := pr6 h bsp i) (by unfold pr6; simp [hik, nrF_some h38])
        have k9 := ih (k + 1) (by omega) (by omega)
        rw [e9] at k9
        exact k9
set_option maxRecDepth 20000 in
/-- nearPairs, its loop -/
theorem cb_nearPairs_o {l : Launch} {D : va_G} {cy : Nat → ClassId} {z : Nat → Nat} {q : Nat → Nat} {p : Program} {e : Env} {s : State} {m : MethodId} {args : Array Value} {below : List Frame} {meth : Method} {c : Code} (hI : wI 49 q) (C : Cx p s m args meth c cX7_nearPairs 4 RX7 D cy z 49 q) (hr : meth.sig.returnType = (some .int)) {tl dsp dwi dat bsp bwi pnx phd vkn : Nat} {dff lbl lsh lpk : Int32} {lett : Nat → Nat} {num lim now : Nat → Int32} {prw plr hgr : Nat → Nat → Int32} {bk bd wio wys trl : Nat → Int32} {clr : Nat → Int64} {tld tie fst las saw : Nat → Int32} {h : Nat → Int32} (hO : hOK h bwi) (hP : vPl plr h bsp bwi) (hH : vHg hgr h bsp bwi) (hA : agr now h bwi) (hs : 8 ≤ bsp) (hs2 : bsp ≤ 40) (hw : bwi ≤ 8) : ∀ (d : Nat) (i : Nat), bwi - i < d → (i ≤ bwi) → AW p l e { frames := 4, cells := 0, slots := 0, locals := 101 } s m args below meth c D 49 q 4 (MQ below (Qg D 49 q (PI (nI (prS (pr6 h bsp) bwi bwi)) (bwC cy q tl dsp dwi dat bsp bwi pnx phd vkn dff lbl lsh lpk lett num lim now prw plr hgr bk bd wio wys trl clr tld tie fst las saw)) (wA 49 q s.heap.size)) args s 0 0 (wA 49 q s.heap.size)) (bwC cy q tl dsp dwi dat bsp bwi pnx phd vkn dff lbl lsh lpk lett num lim now prw plr hgr bk bd wio wys trl clr tld tie fst las saw) [(0, .ref (q 5)), (1, .int (nI (prS (pr6 h bsp) bwi i))), (2, .int (nI i))] 4 [] := by
  intro d
  induction d with
  | zero => intro i hd; exact absurd hd (Nat.not_lt_zero _)
  | succ d ih =>
    intro i hd iv0
    refine aw_iload_n C dX7_nearPairs_4 (i := 2) rfl rfl ?_
    refine aw_aload_n C dX7_nearPairs_5 (i := 0) rfl rfl ?_
    refine aw_get (k := 5) C dX7_nearPairs_6 fl_X7_26 (by decide) rfl rfl ?_
    refine aw_get (k := 3) C dX7_nearPairs_9 fl_X7_30 (by decide) rfl rfl ?_
    refine aw_icmp_ge_n (tgt := 56) C dX7_nearPairs_12 (by decide) (by omega) (by omega) (fun h12 => ?_) (fun h12 => ?_)
    · refine aw_iload_n C dX7_nearPairs_56 (i := 1) rfl rfl ?_
      refine aw_iret C hr dX7_nearPairs_57 ?_
      exact PI.mk (by rw [show i = bwi by omega]) rfl
    · have hps := prS_le (pr6 h bsp) bwi i
      have hpm := Nat.mul_le_mul (show i ≤ 8 by omega) hw
      refine aw_iload_n C dX7_nearPairs_15 (i := 2) rfl rfl ?_
      refine aw_iconst C dX7_nearPairs_16 ki_1 ?_
      refine aw_iadd_n C dX7_nearPairs_17 ?_
      refine aw_istore_n (lv' := [(0, _), (1, _), (2, _), (3, _)]) C dX7_nearPairs_18 (i := 3) rfl (Nat.le_of_ble_eq_true rfl) rfl ?_
      refine aw_lq (lv' := [(0, .ref (q 5)), (1, .int (nI (prS (pr6 h bsp) bwi i + cntB ((pr6 h bsp) i) (i + 1)))), (2, .int (nI i)), (3, .int (nI (i + 1)))]) (by rw [cntB_z (fun j hj => by unfold pr6; simp; intro h9; omega)]; rfl) ?_
      refine cb_nearPairs_i hI C hr (by omega) (by omega) hO hP hH hA hs hs2 hw ?_ (bwi + 1) (i + 1) (by omega) (by omega)
      refine aw_iinc_n (lv' := [(0, _), (1, _), (2, _), (3, _)]) C dX7_nearPairs_50 rfl ki_1 (Nat.le_of_ble_eq_true rfl) rfl ?_
      refine aw_goto (tgt := 4) C dX7_nearPairs_53 (by decide) ?_
      refine aw_take 3 (lv' := [(0, _), (1, _), (2, _)]) rfl ?_
      exact ih (i + 1) (by omega) (by omega)
set_option maxRecDepth 20000 in
/-- nearPairs -/
theorem cb_nearPairs {l : Launch} {D : va_G} {cy : Nat → ClassId} {z : Nat → Nat} {q : Nat → Nat} (hI : wI 49 q) {tl dsp dwi dat bsp bwi pnx phd vkn : Nat} {dff lbl lsh lpk : Int32} {lett : Nat → Nat} {num lim now : Nat → Int32} {prw plr hgr : Nat → Nat → Int32} {bk bd wio wys trl : Nat → Int32} {clr : Nat → Int64} {tld tie fst las saw : Nat → Int32} {h : Nat → Int32} (hO : hOK h bwi) (hP : vPl plr h bsp bwi) (hH : vHg hgr h bsp bwi) (hA : agr now h bwi) (hs : 8 ≤ bsp) (hs2 : bsp ≤ 40) (hw : bwi ≤ 8) : Ct l yX7_nearPairs cX7_nearPairs 4 (some .int) 4 101 D cy z 49 q [.ref (q 5)] (bwC cy q tl dsp dwi dat bsp bwi pnx phd vkn dff lbl lsh lpk lett num lim now prw plr hgr bk bd wio wys trl clr tld tie fst las saw) (PI (nI (prS (pr6 h bsp) bwi bwi)) (bwC cy q tl dsp dwi dat bsp bwi pnx phd vkn dff lbl lsh lpk lett num lim now prw plr hgr bk bd wio wys trl clr tld tie fst las saw)) := by
  refine Ct.of (own := RX7) (by decide) rfl hI (Nat.le_of_ble_eq_true rfl) ?_
  intro p e s m args below meth c C hr
  refine aw_lv (lv' := [(0, .ref (q 5))]) (fun x hx => hx) ?_
  refine aw_iconst C dX7_nearPairs_0 ki_0 ?_
  refine aw_istore_n (lv' := [(0, _), (1, _)]) C dX7_nearPairs_1 (i := 1) rfl (Nat.le_of_ble_eq_true rfl) rfl ?_
  refine aw_iconst C dX7_nearPairs_2 ki_0 ?_
  refine aw_istore_n (lv' := [(0, _), (1, _), (2, _)]) C dX7_nearPairs_3 (i := 2) rfl (Nat.le_of_ble_eq_true rfl) rfl ?_
  exact cb_nearPairs_o hI C hr hO hP hH hA hs hs2 hw (bwi + 1) 0 (by omega) (by omega)
set_option maxRecDepth 20000 in
/-- crossPairs, its loop -/
theorem cb_crossPairs_i {l : Launch} {D : va_G} {cy : Nat → ClassId} {z : Nat → Nat} {q : Nat → Nat} {p : Program} {e : Env} {s : State} {m : MethodId} {args : Array Value} {below : List Frame} {meth : Method} {c : Code} {Q : State → Prop} (hI : wI 49 q) (C : Cx p s m args meth c cX7_crossPairs 4 RX7 D cy z 49 q) (hr : meth.sig.returnType = (some .int)) {tl dsp dwi dat bsp bwi pnx phd vkn : Nat} {dff lbl lsh lpk : Int32} {lett : Nat → Nat} {num lim now : Nat → Int32} {prw plr hgr : Nat → Nat → Int32} {bk bd wio wys trl : Nat → Int32} {clr : Nat → Int64} {tld tie fst las saw : Nat → Int32} {i a : Nat} (hi : i < bwi) (ha : a ≤ 100) {h : Nat → Int32} (hO : hOK h bwi) (hP : vPl plr h bsp bwi) (hH : vHg hgr h bsp bwi) (hs : 8 ≤ bsp) (hs2 : bsp ≤ 40) (hw : bwi ≤ 8) (K : AW p l e { frames := 2, cells := 0, slots := 0, locals := 45 } s m args below meth c D 49 q 4 Q (bwC cy q tl dsp dwi dat bsp bwi pnx phd vkn dff lbl lsh lpk lett num lim now prw plr hgr bk bd wio wys trl clr tld tie fst las saw) [(0, .ref (q 5)), (1, .int (nI (a + cntB ((pr7 h bsp) i) bwi))), (2, .int (nI i)), (3, .int (nI (bwi)))] 48 []) : ∀ (d : Nat) (k : Nat), bwi - k < d → (i < k ∧ k ≤ bwi) → AW p l e { frames := 2, cells := 0, slots := 0, locals := 45 } s m args below meth c D 49 q 4 Q (bwC cy q tl dsp dwi dat bsp bwi pnx phd vkn dff lbl lsh lpk lett num lim now prw plr hgr bk bd wio wys trl clr tld tie fst las saw) [(0, .ref (q 5)), (1, .int (nI (a + cntB ((pr7 h bsp) i) k))), (2, .int (nI i)), (3, .int (nI (k)))] 19 [] := by
  intro d
  induction d with
  | zero => intro k hd; exact absurd hd (Nat.not_lt_zero _)
  | succ d ih =>
    intro k hd iv0
    refine aw_iload_n C dX7_crossPairs_19 (i := 3) rfl rfl ?_
    refine aw_aload_n C dX7_crossPairs_20 (i := 0) rfl rfl ?_
    refine aw_get (k := 5) C dX7_crossPairs_21 fl_X7_26 (by decide) rfl rfl ?_
    refine aw_get (k := 3) C dX7_crossPairs_24 fl_X7_30 (by decide) rfl rfl ?_
    refine aw_icmp_ge_n (tgt := 48) C dX7_crossPairs_27 (by decide) (by omega) (by omega) (fun h27 => ?_) (fun h27 => ?_)
    · obtain rfl : k = bwi := by omega
      exact K
    · have hcb := cntB_le ((pr7 h bsp) i) k
      have hik : i < k := iv0.1
      refine aw_aload_n C dX7_crossPairs_30 (i := 0) rfl rfl ?_
      refine aw_iload_n C dX7_crossPairs_31 (i := 2) rfl rfl ?_
      refine aw_iload_n C dX7_crossPairs_32 (i := 3) rfl rfl ?_
      refine aw_V2i (k := 5) C dX7_crossPairs_33 cv_X7_93 (by decide) rfl rfl rfl (cb_cross hI (by omega) (by omega) hO hP hH hs hs2 hw) ⟨Nat.le_of_ble_eq_true rfl, Nat.le_of_ble_eq_true rfl⟩ (Nat.le_of_ble_eq_true rfl) ?_
      refine aw_if_eq_b (tgt := 42) C dX7_crossPairs_36 (by decide) (fun h36 => ?_) (fun h36 => ?_)
      · refine aw_iinc_n (lv' := [(0, _), (1, _), (2, _), (3, _)]) C dX7_crossPairs_42 rfl ki_1 (Nat.le_of_ble_eq_true rfl) rfl ?_
        refine aw_goto (tgt := 19) C dX7_crossPairs_45 (by decide) ?_
        have e9 := cntB_n (n := k) (p := pr7 h bsp i) (by unfold pr7; simp [hik, h36])
        have k9 := ih (k + 1) (by omega) (by omega)
        rw [e9] at k9
        exact k9
      · refine aw_iinc_n (lv' := [(0, _), (1, _), (2, _), (3, _)]) C dX7_crossPairs_39 rfl ki_1 (Nat.le_of_ble_eq_true rfl) rfl ?_
        refine aw_iinc_n (lv' := [(0, _), (1, _), (2, _), (3, _)]) C dX7_crossPairs_42 rfl ki_1 (Nat.le_of_ble_eq_true rfl) rfl ?_
        refine aw_goto (tgt := 19) C dX7_crossPairs_45 (by decide) ?_
        have e9 := cntB_t (n := k) (p := pr7 h bsp i) (by unfold pr7; simp [hik, h36])
        have k9 := ih (k + 1) (by omega) (by omega)
        rw [e9] at k9
        exact k9
set_option maxRecDepth 20000 in
/-- crossPairs, its loop -/
theorem cb_crossPairs_o {l : Launch} {D : va_G} {cy : Nat → ClassId} {z : Nat → Nat} {q : Nat → Nat} {p : Program} {e : Env} {s : State} {m : MethodId} {args : Array Value} {below : List Frame} {meth : Method} {c : Code} (hI : wI 49 q) (C : Cx p s m args meth c cX7_crossPairs 4 RX7 D cy z 49 q) (hr : meth.sig.returnType = (some .int)) {tl dsp dwi dat bsp bwi pnx phd vkn : Nat} {dff lbl lsh lpk : Int32} {lett : Nat → Nat} {num lim now : Nat → Int32} {prw plr hgr : Nat → Nat → Int32} {bk bd wio wys trl : Nat → Int32} {clr : Nat → Int64} {tld tie fst las saw : Nat → Int32} {h : Nat → Int32} (hO : hOK h bwi) (hP : vPl plr h bsp bwi) (hH : vHg hgr h bsp bwi) (hs : 8 ≤ bsp) (hs2 : bsp ≤ 40) (hw : bwi ≤ 8) : ∀ (d : Nat) (i : Nat), bwi - i < d → (i ≤ bwi) → AW p l e { frames := 2, cells := 0, slots := 0, locals := 45 } s m args below meth c D 49 q 4 (MQ below (Qg D 49 q (PI (nI (prS (pr7 h bsp) bwi bwi)) (bwC cy q tl dsp dwi dat bsp bwi pnx phd vkn dff lbl lsh lpk lett num lim now prw plr hgr bk bd wio wys trl clr tld tie fst las saw)) (wA 49 q s.heap.size)) args s 0 0 (wA 49 q s.heap.size)) (bwC cy q tl dsp dwi dat bsp bwi pnx phd vkn dff lbl lsh lpk lett num lim now prw plr hgr bk bd wio wys trl clr tld tie fst las saw) [(0, .ref (q 5)), (1, .int (nI (prS (pr7 h bsp) bwi i))), (2, .int (nI i))] 4 [] := by
  intro d
  induction d with
  | zero => intro i hd; exact absurd hd (Nat.not_lt_zero _)
  | succ d ih =>
    intro i hd iv0
    refine aw_iload_n C dX7_crossPairs_4 (i := 2) rfl rfl ?_
    refine aw_aload_n C dX7_crossPairs_5 (i := 0) rfl rfl ?_
    refine aw_get (k := 5) C dX7_crossPairs_6 fl_X7_26 (by decide) rfl rfl ?_
    refine aw_get (k := 3) C dX7_crossPairs_9 fl_X7_30 (by decide) rfl rfl ?_
    refine aw_icmp_ge_n (tgt := 54) C dX7_crossPairs_12 (by decide) (by omega) (by omega) (fun h12 => ?_) (fun h12 => ?_)
    · refine aw_iload_n C dX7_crossPairs_54 (i := 1) rfl rfl ?_
      refine aw_iret C hr dX7_crossPairs_55 ?_
      exact PI.mk (by rw [show i = bwi by omega]) rfl
    · have hps := prS_le (pr7 h bsp) bwi i
      have hpm := Nat.mul_le_mul (show i ≤ 8 by omega) hw
      refine aw_iload_n C dX7_crossPairs_15 (i := 2) rfl rfl ?_
      refine aw_iconst C dX7_crossPairs_16 ki_1 ?_
      refine aw_iadd_n C dX7_crossPairs_17 ?_
      refine aw_istore_n (lv' := [(0, _), (1, _), (2, _), (3, _)]) C dX7_crossPairs_18 (i := 3) rfl (Nat.le_of_ble_eq_true rfl) rfl ?_
      refine aw_lq (lv' := [(0, .ref (q 5)), (1, .int (nI (prS (pr7 h bsp) bwi i + cntB ((pr7 h bsp) i) (i + 1)))), (2, .int (nI i)), (3, .int (nI (i + 1)))]) (by rw [cntB_z (fun j hj => by unfold pr7; simp; intro h9; omega)]; rfl) ?_
      refine cb_crossPairs_i hI C hr (by omega) (by omega) hO hP hH hs hs2 hw ?_ (bwi + 1) (i + 1) (by omega) (by omega)
      refine aw_iinc_n (lv' := [(0, _), (1, _), (2, _), (3, _)]) C dX7_crossPairs_48 rfl ki_1 (Nat.le_of_ble_eq_true rfl) rfl ?_
      refine aw_goto (tgt := 4) C dX7_crossPairs_51 (by decide) ?_
      refine aw_take 3 (lv' := [(0, _), (1, _), (2, _)]) rfl ?_
      exact ih (i + 1) (by omega) (by omega)
set_option maxRecDepth 20000 in
/-- crossPairs -/
theorem cb_crossPairs {l : Launch} {D : va_G} {cy : Nat → ClassId} {z : Nat → Nat} {q : Nat → Nat} (hI : wI 49 q) {tl dsp dwi dat bsp bwi pnx phd vkn : Nat} {dff lbl lsh lpk : Int32} {lett : Nat → Nat} {num lim now : Nat → Int32} {prw plr hgr : Nat → Nat → Int32} {bk bd wio wys trl : Nat → Int32} {clr : Nat → Int64} {tld tie fst las saw : Nat → Int32} {h : Nat → Int32} (hO : hOK h bwi) (hP : vPl plr h bsp bwi) (hH : vHg hgr h bsp bwi) (hs : 8 ≤ bsp) (hs2 : bsp ≤ 40) (hw : bwi ≤ 8) : Ct l yX7_crossPairs cX7_crossPairs 4 (some .int) 2 45 D cy z 49 q [.ref (q 5)] (bwC cy q tl dsp dwi dat bsp bwi pnx phd vkn dff lbl lsh lpk lett num lim now prw plr hgr bk bd wio wys trl clr tld tie fst las saw) (PI (nI (prS (pr7 h bsp) bwi bwi)) (bwC cy q tl dsp dwi dat bsp bwi pnx phd vkn dff lbl lsh lpk lett num lim now prw plr hgr bk bd wio wys trl clr tld tie fst las saw)) := by
  refine Ct.of (own := RX7) (by decide) rfl hI (Nat.le_of_ble_eq_true rfl) ?_
  intro p e s m args below meth c C hr
  refine aw_lv (lv' := [(0, .ref (q 5))]) (fun x hx => hx) ?_
  refine aw_iconst C dX7_crossPairs_0 ki_0 ?_
  refine aw_istore_n (lv' := [(0, _), (1, _)]) C dX7_crossPairs_1 (i := 1) rfl (Nat.le_of_ble_eq_true rfl) rfl ?_
  refine aw_iconst C dX7_crossPairs_2 ki_0 ?_
  refine aw_istore_n (lv' := [(0, _), (1, _), (2, _)]) C dX7_crossPairs_3 (i := 2) rfl (Nat.le_of_ble_eq_true rfl) rfl ?_
  exact cb_crossPairs_o hI C hr hO hP hH hs hs2 hw (bwi + 1) 0 (by omega) (by omega)
set_option maxRecDepth 20000 in
/-- isOverEnd, its loop -/
theorem cb_isOverEnd_l {l : Launch} {D : va_G} {cy : Nat → ClassId} {z : Nat → Nat} {q : Nat → Nat} {p : Program} {e : Env} {s : State} {m : MethodId} {args : Array Value} {below : List Frame} {meth : Method} {c : Code} (hI : wI 49 q) (C : Cx p s m args meth c cX7_isOverEnd 12 RX7 D cy z 49 q) (hr : meth.sig.returnType = (some .boolean)) {tl dsp dwi dat bsp bwi pnx phd vkn : Nat} {dff lbl lsh lpk : Int32} {lett : Nat → Nat} {num lim now : Nat → Int32} {prw plr hgr : Nat → Nat → Int32} {bk bd wio wys trl : Nat → Int32} {clr : Nat → Int64} {tld tie fst las saw : Nat → Int32} {K0 : Nat} {gk : Nat → Int32} (hK1 : K0 < 49) (hK2 : (bwC cy q tl dsp dwi dat bsp bwi pnx phd vkn dff lbl lsh lpk lett num lim now prw plr hgr bk bd wio wys trl clr tld tie fst las saw) K0 = .inl (cy 1, 41, .inl gk)) {i k : Nat} (hi : i < bwi) (hk : k < bwi) {e0 : Nat} (he : e0 ≤ bsp) {h : Nat → Int32} (hO : hOK h bwi) (hP : vPl plr h bsp bwi) (hH : vHg hgr h bsp bwi) (hA : agr now h bwi) (hs : 8 ≤ bsp) (hs2 : bsp ≤ 40) (hw : bwi ≤ 8) : ∀ (d : Nat) (y : Nat), bsp + 1 - y < d → (y ≤ bsp + 1) → (∀ j, j < y → ovG h bsp i k e0 gk j = false) → AW p l e { frames := 1, cells := 0, slots := 0, locals := 32 } s m args below meth c D 49 q 12 (MQ below (Qg D 49 q (PI (bi (anyB (ovG h bsp i k e0 gk) (bsp + 1))) (bwC cy q tl dsp dwi dat bsp bwi pnx phd vkn dff lbl lsh lpk lett num lim now prw plr hgr bk bd wio wys trl clr tld tie fst las saw)) (wA 49 q s.heap.size)) args s 0 0 (wA 49 q s.heap.size)) (bwC cy q tl dsp dwi dat bsp bwi pnx phd vkn dff lbl lsh lpk lett num lim now prw plr hgr bk bd wio wys trl clr tld tie fst las saw) [(0, .ref (q 5)), (1, .int (nI k)), (2, .ref (q K0)), (3, .int (nI i)), (4, .int (nI e0)), (5, .int (nI bsp)), (6, .int (nI 2 * h 42)), (7, .int (plc h bsp i e0)), (8, .int (hgt h bsp i e0)), (9, .int (nI y))] 46 [] := by
  intro d
  induction d with
  | zero => intro y hd; exact absurd hd (Nat.not_lt_zero _)
  | succ d ih =>
    intro y hd iv0 iv1
    refine aw_iload C dX7_isOverEnd_46 rfl ?_
    refine aw_iload C dX7_isOverEnd_48 rfl ?_
    refine aw_icmp_gt_n (tgt := 122) C dX7_isOverEnd_50 (by decide) (by omega) (by omega) (fun h50 => ?_) (fun h50 => ?_)
    · refine aw_iconst C dX7_isOverEnd_122 ki_0 ?_
      refine aw_zret C hr dX7_isOverEnd_123 (by decide) ?_
      exact PI.mk (bi_f (anyB_f.mpr (fun j hj => iv1 j (by omega)))) rfl
    · refine aw_aload_n C dX7_isOverEnd_53 (i := 2) rfl rfl ?_
      refine aw_iload C dX7_isOverEnd_54 rfl ?_
      refine aw_iald (k := K0) C dX7_isOverEnd_56 (hK1) (hK2) (rfl) (by omega) (by decide) (rfl) ?_
      refine aw_iload C dX7_isOverEnd_57 rfl ?_
      refine aw_isub C dX7_isOverEnd_59 ?_
      refine aw_istore (lv' := [(0, _), (1, _), (2, _), (3, _), (4, _), (5, _), (6, _), (7, _), (8, _), (9, _), (10, _)]) C dX7_isOverEnd_60 (Nat.le_of_ble_eq_true rfl) rfl ?_
      refine aw_iload C dX7_isOverEnd_62 rfl ?_
      refine aw_iload C dX7_isOverEnd_64 rfl ?_
      refine aw_iadd C dX7_isOverEnd_66 ?_
      refine aw_istore (lv' := [(0, _), (1, _), (2, _), (3, _), (4, _), (5, _), (6, _), (7, _), (8, _), (9, _), (10, _), (11, _)]) C dX7_isOverEnd_67 (Nat.le_of_ble_eq_true rfl) rfl ?_
      refine aw_iload C dX7_isOverEnd_69 rfl ?_
      refine aw_if_lt (tgt := 116) C dX7_isOverEnd_71 (by decide) (fun h71 => ?_) (fun h71 => ?_)
      · refine aw_iinc_n (lv' := [(0, _), (1, _), (2, _), (3, _), (4, _), (5, _), (6, _), (7, _), (8, _), (9, _), (10, _), (11, _)]) C dX7_isOverEnd_116 rfl ki_1 (Nat.le_of_ble_eq_true rfl) rfl ?_
        refine aw_goto (tgt := 46) C dX7_isOverEnd_119 (by decide) ?_
        refine aw_take 10 (lv' := [(0, _), (1, _), (2, _), (3, _), (4, _), (5, _), (6, _), (7, _), (8, _), (9, _)]) rfl ?_
        exact ih (y + 1) (by omega) (by omega) (fun j hj => by rcases Nat.lt_or_ge j y with g | g; exact iv1 j g; rw [show j = y by omega]; rw [← Bool.not_eq_true]; unfold ovG; simp only [Bool.and_eq_true, Bool.or_eq_true, decide_eq_true_eq, Int32.le_iff_toInt_le, Int32.lt_iff_toInt_lt] at h71 ⊢; omega)
      · refine aw_iconst C dX7_isOverEnd_74 ki_2 ?_
        refine aw_iload C dX7_isOverEnd_75 rfl ?_
        refine aw_iload C dX7_isOverEnd_77 rfl ?_
        refine aw_isub C dX7_isOverEnd_79 ?_
        refine aw_abs C dX7_isOverEnd_80 ca_X7_66 (Nat.le_of_ble_eq_true rfl) (Nat.le_of_ble_eq_true rfl) (Nat.le_of_ble_eq_true rfl) ?_
        rw [abs_dst (sml_n (by omega)) (sml_n (by omega))]
        refine aw_imul C dX7_isOverEnd_83 ?_
        refine aw_iload C dX7_isOverEnd_84 rfl ?_
        refine aw_icmp_ge (tgt := 116) C dX7_isOverEnd_86 (by decide) (fun h86 => ?_) (fun h86 => ?_)
        · refine aw_iinc_n (lv' := [(0, _), (1, _), (2, _), (3, _), (4, _), (5, _), (6, _), (7, _), (8, _), (9, _), (10, _), (11, _)]) C dX7_isOverEnd_116 rfl ki_1 (Nat.le_of_ble_eq_true rfl) rfl ?_
          refine aw_goto (tgt := 46) C dX7_isOverEnd_119 (by decide) ?_
          refine aw_take 10 (lv' := [(0, _), (1, _), (2, _), (3, _), (4, _), (5, _), (6, _), (7, _), (8, _), (9, _)]) rfl ?_
          exact ih (y + 1) (by omega) (by omega) (fun j hj => by rcases Nat.lt_or_ge j y with g | g; exact iv1 j g; rw [show j = y by omega]; rw [← Bool.not_eq_true]; unfold ovG; simp only [Bool.and_eq_true, Bool.or_eq_true, decide_eq_true_eq, Int32.le_iff_toInt_le, Int32.lt_iff_toInt_lt] at h71 h86 ⊢; omega)
        · refine aw_iconst C dX7_isOverEnd_89 ki_2 ?_
          refine aw_aload_n C dX7_isOverEnd_90 (i := 0) rfl rfl ?_
          refine aw_get (k := 5) C dX7_isOverEnd_91 fl_X7_11 (by decide) rfl rfl ?_
          refine aw_iload_n C dX7_isOverEnd_94 (i := 1) rfl rfl ?_
          refine aw_aald (k := 20) (n := k) C dX7_isOverEnd_95 (by decide) rfl (rfl) (by omega) (by decide) rfl ?_
          refine aw_iload C dX7_isOverEnd_96 rfl ?_
          refine aw_iald (k := (21 + k)) C dX7_isOverEnd_98 (by omega) (bw_r_plr (by omega)) (rfl) (by omega) (by decide) (hP k (by omega) y (by omega)) ?_
          refine aw_iload C dX7_isOverEnd_99 rfl ?_
          refine aw_isub C dX7_isOverEnd_101 ?_
          refine aw_abs C dX7_isOverEnd_102 ca_X7_66 (Nat.le_of_ble_eq_true rfl) (Nat.le_of_ble_eq_true rfl) (Nat.le_of_ble_eq_true rfl) ?_
          rw [abs_dst (sm_plc hO (by omega) hs2 (by omega)) (sm_plc hO (by omega) hs2 (by omega))]
          refine aw_imul C dX7_isOverEnd_105 ?_
          refine aw_iload C dX7_isOverEnd_106 rfl ?_
          refine aw_iload C dX7_isOverEnd_108 rfl ?_
          refine aw_imul C dX7_isOverEnd_110 ?_
          refine aw_icmp_ge (tgt := 116) C dX7_isOverEnd_111 (by decide) (fun h111 => ?_) (fun h111 => ?_)
          · refine aw_iinc_n (lv' := [(0, _), (1, _), (2, _), (3, _), (4, _), (5, _), (6, _), (7, _), (8, _), (9, _), (10, _), (11, _)]) C dX7_isOverEnd_116 rfl ki_1 (Nat.le_of_ble_eq_true rfl) rfl ?_
            refine aw_goto (tgt := 46) C dX7_isOverEnd_119 (by decide) ?_
            refine aw_take 10 (lv' := [(0, _), (1, _), (2, _), (3, _), (4, _), (5, _), (6, _), (7, _), (8, _), (9, _)]) rfl ?_
            exact ih (y + 1) (by omega) (by omega) (fun j hj => by rcases Nat.lt_or_ge j y with g | g; exact iv1 j g; rw [show j = y by omega]; rw [← Bool.not_eq_true]; unfold ovG; simp only [Bool.and_eq_true, Bool.or_eq_true, decide_eq_true_eq, Int32.le_iff_toInt_le, Int32.lt_iff_toInt_lt] at h71 h86 h111 ⊢; omega)
          · refine aw_iconst C dX7_isOverEnd_114 ki_1 ?_
            refine aw_zret C hr dX7_isOverEnd_115 (by decide) ?_
            exact PI.mk (bi_t (anyB_t.mpr ⟨y, by omega, by unfold ovG; simp only [Bool.and_eq_true, decide_eq_true_eq]; exact ⟨i_le h71, i_lt h86, i_lt h111⟩⟩)) rfl
set_option maxRecDepth 20000 in
/-- isOverEnd -/
theorem cb_isOverEnd {l : Launch} {D : va_G} {cy : Nat → ClassId} {z : Nat → Nat} {q : Nat → Nat} (hI : wI 49 q) {tl dsp dwi dat bsp bwi pnx phd vkn : Nat} {dff lbl lsh lpk : Int32} {lett : Nat → Nat} {num lim now : Nat → Int32} {prw plr hgr : Nat → Nat → Int32} {bk bd wio wys trl : Nat → Int32} {clr : Nat → Int64} {tld tie fst las saw : Nat → Int32} {K0 : Nat} {gk : Nat → Int32} (hK1 : K0 < 49) (hK2 : (bwC cy q tl dsp dwi dat bsp bwi pnx phd vkn dff lbl lsh lpk lett num lim now prw plr hgr bk bd wio wys trl clr tld tie fst las saw) K0 = .inl (cy 1, 41, .inl gk)) {i k : Nat} (hi : i < bwi) (hk : k < bwi) {e0 : Nat} (he : e0 ≤ bsp) {h : Nat → Int32} (hO : hOK h bwi) (hP : vPl plr h bsp bwi) (hH : vHg hgr h bsp bwi) (hA : agr now h bwi) (hs : 8 ≤ bsp) (hs2 : bsp ≤ 40) (hw : bwi ≤ 8) : Ct l yX7_isOverEnd cX7_isOverEnd 12 (some .boolean) 1 32 D cy z 49 q [.ref (q 5), .int (nI k), .ref (q K0), .int (nI i), .int (nI e0)] (bwC cy q tl dsp dwi dat bsp bwi pnx phd vkn dff lbl lsh lpk lett num lim now prw plr hgr bk bd wio wys trl clr tld tie fst las saw) (PI (bi (anyB (ovG h bsp i k e0 gk) (bsp + 1))) (bwC cy q tl dsp dwi dat bsp bwi pnx phd vkn dff lbl lsh lpk lett num lim now prw plr hgr bk bd wio wys trl clr tld tie fst las saw)) := by
  refine Ct.of (own := RX7) (by decide) rfl hI (Nat.le_of_ble_eq_true rfl) ?_
  intro p e s m args below meth c C hr
  refine aw_lv (lv' := [(0, .ref (q 5)), (1, .int (nI k)), (2, .ref (q K0)), (3, .int (nI i)), (4, .int (nI e0))]) (fun x hx => hx) ?_
  refine aw_aload_n C dX7_isOverEnd_0 (i := 0) rfl rfl ?_
  refine aw_get (k := 5) C dX7_isOverEnd_1 fl_X7_26 (by decide) rfl rfl ?_
  refine aw_get (k := 3) C dX7_isOverEnd_4 fl_X7_56 (by decide) rfl rfl ?_
  refine aw_istore (lv' := [(0, _), (1, _), (2, _), (3, _), (4, _), (5, _)]) C dX7_isOverEnd_7 (Nat.le_of_ble_eq_true rfl) rfl ?_
  refine aw_iconst C dX7_isOverEnd_9 ki_2 ?_
  refine aw_aload_n C dX7_isOverEnd_10 (i := 0) rfl rfl ?_
  refine aw_get (k := 5) C dX7_isOverEnd_11 fl_X7_26 (by decide) rfl rfl ?_
  refine aw_iconst C dX7_isOverEnd_14 ki_2 ?_
  refine aw_V1i (k := 3) C dX7_isOverEnd_15 cv_X7_75 (by decide) rfl rfl rfl (cb_limitOf hI (by omega)) ⟨Nat.le_of_ble_eq_true rfl, Nat.le_of_ble_eq_true rfl⟩ (Nat.le_of_ble_eq_true rfl) ?_
  rw [hA 42 (by omega)]
  refine aw_imul C dX7_isOverEnd_18 ?_
  refine aw_istore (lv' := [(0, _), (1, _), (2, _), (3, _), (4, _), (5, _), (6, _)]) C dX7_isOverEnd_19 (Nat.le_of_ble_eq_true rfl) rfl ?_
  refine aw_aload_n C dX7_isOverEnd_21 (i := 0) rfl rfl ?_
  refine aw_get (k := 5) C dX7_isOverEnd_22 fl_X7_11 (by decide) rfl rfl ?_
  refine aw_iload_n C dX7_isOverEnd_25 (i := 3) rfl rfl ?_
  refine aw_aald (k := 20) (n := i) C dX7_isOverEnd_26 (by decide) rfl (rfl) (by omega) (by decide) rfl ?_
  refine aw_iload C dX7_isOverEnd_27 rfl ?_
  refine aw_iald (k := (21 + i)) C dX7_isOverEnd_29 (by omega) (bw_r_plr (by omega)) (rfl) (by omega) (by decide) (hP i (by omega) e0 (by omega)) ?_
  refine aw_istore (lv' := [(0, _), (1, _), (2, _), (3, _), (4, _), (5, _), (6, _), (7, _)]) C dX7_isOverEnd_30 (Nat.le_of_ble_eq_true rfl) rfl ?_
  refine aw_aload_n C dX7_isOverEnd_32 (i := 0) rfl rfl ?_
  refine aw_get (k := 5) C dX7_isOverEnd_33 fl_X7_16 (by decide) rfl rfl ?_
  refine aw_iload_n C dX7_isOverEnd_36 (i := 3) rfl rfl ?_
  refine aw_aald (k := 29) (n := i) C dX7_isOverEnd_37 (by decide) rfl (rfl) (by omega) (by decide) rfl ?_
  refine aw_iload C dX7_isOverEnd_38 rfl ?_
  refine aw_iald (k := (30 + i)) C dX7_isOverEnd_40 (by omega) (bw_r_hgr (by omega)) (rfl) (by omega) (by decide) (hH i (by omega) e0 (by omega)) ?_
  refine aw_istore (lv' := [(0, _), (1, _), (2, _), (3, _), (4, _), (5, _), (6, _), (7, _), (8, _)]) C dX7_isOverEnd_41 (Nat.le_of_ble_eq_true rfl) rfl ?_
  refine aw_iconst C dX7_isOverEnd_43 ki_0 ?_
  refine aw_istore (lv' := [(0, _), (1, _), (2, _), (3, _), (4, _), (5, _), (6, _), (7, _), (8, _), (9, _)]) C dX7_isOverEnd_44 (Nat.le_of_ble_eq_true rfl) rfl ?_
  exact cb_isOverEnd_l hI C hr hK1 hK2 hi hk he hO hP hH hA hs hs2 hw (bsp + 2) 0 (by omega) (by omega) (fun j hj => absurd hj (Nat.not_lt_zero j))
set_option maxRecDepth 20000 in
/-- isInTheWay -/
theorem cb_isInTheWay {l : Launch} {D : va_G} {cy : Nat → ClassId} {z : Nat → Nat} {q : Nat → Nat} (hI : wI 49 q) {tl dsp dwi dat bsp bwi pnx phd vkn : Nat} {dff lbl lsh lpk : Int32} {lett : Nat → Nat} {num lim now : Nat → Int32} {prw plr hgr : Nat → Nat → Int32} {bk bd wio wys trl : Nat → Int32} {clr : Nat → Int64} {tld tie fst las saw : Nat → Int32} {K0 : Nat} {gk : Nat → Int32} (hK1 : K0 < 49) (hK2 : (bwC cy q tl dsp dwi dat bsp bwi pnx phd vkn dff lbl lsh lpk lett num lim now prw plr hgr bk bd wio wys trl clr tld tie fst las saw) K0 = .inl (cy 1, 41, .inl gk)) {i k : Nat} (hi : i < bwi) (hk : k < bwi) {h : Nat → Int32} (hO : hOK h bwi) (hP : vPl plr h bsp bwi) (hH : vHg hgr h bsp bwi) (hA : agr now h bwi) (hs : 8 ≤ bsp) (hs2 : bsp ≤ 40) (hw : bwi ≤ 8) : Ct l yX7_isInTheWay cX7_isInTheWay 4 (some .boolean) 2 63 D cy z 49 q [.ref (q 5), .int (nI k), .ref (q K0), .int (nI i)] (bwC cy q tl dsp dwi dat bsp bwi pnx phd vkn dff lbl lsh lpk lett num lim now prw plr hgr bk bd wio wys trl clr tld tie fst las saw) (PI (bi (wyG h bsp i k gk)) (bwC cy q tl dsp dwi dat bsp bwi pnx phd vkn dff lbl lsh lpk lett num lim now prw plr hgr bk bd wio wys trl clr tld tie fst las saw)) := by
  refine Ct.of (own := RX7) (by decide) rfl hI (Nat.le_of_ble_eq_true rfl) ?_
  intro p e s m args below meth c C hr
  refine aw_lv (lv' := [(0, .ref (q 5)), (1, .int (nI k)), (2, .ref (q K0)), (3, .int (nI i))]) (fun x hx => hx) ?_
  refine aw_aload_n C dX7_isInTheWay_0 (i := 0) rfl rfl ?_
  refine aw_iload_n C dX7_isInTheWay_1 (i := 1) rfl rfl ?_
  refine aw_aload_n C dX7_isInTheWay_2 (i := 2) rfl rfl ?_
  refine aw_iload_n C dX7_isInTheWay_3 (i := 3) rfl rfl ?_
  refine aw_iconst C dX7_isInTheWay_4 ki_0 ?_
  refine aw_V4i (k := 5) C dX7_isInTheWay_5 cv_X7_110 (by decide) rfl rfl rfl (cb_isOverEnd hI hK1 hK2 hi hk (by omega) hO hP hH hA hs hs2 hw) ⟨Nat.le_of_ble_eq_true rfl, Nat.le_of_ble_eq_true rfl⟩ (Nat.le_of_ble_eq_true rfl) ?_
  refine aw_if_ne_b (tgt := 28) C dX7_isInTheWay_8 (by decide) (fun h8 => ?_) (fun h8 => ?_)
  · refine aw_iconst C dX7_isInTheWay_28 ki_1 ?_
    refine aw_goto (tgt := 33) C dX7_isInTheWay_29 (by decide) ?_
    refine aw_zret C hr dX7_isInTheWay_33 (by decide) ?_
    exact PI.mk (bi_t (by unfold wyG; rw [h8]; rfl)) rfl
  · refine aw_aload_n C dX7_isInTheWay_11 (i := 0) rfl rfl ?_
    refine aw_iload_n C dX7_isInTheWay_12 (i := 1) rfl rfl ?_
    refine aw_aload_n C dX7_isInTheWay_13 (i := 2) rfl rfl ?_
    refine aw_iload_n C dX7_isInTheWay_14 (i := 3) rfl rfl ?_
    refine aw_aload_n C dX7_isInTheWay_15 (i := 0) rfl rfl ?_
    refine aw_get (k := 5) C dX7_isInTheWay_16 fl_X7_26 (by decide) rfl rfl ?_
    refine aw_get (k := 3) C dX7_isInTheWay_19 fl_X7_56 (by decide) rfl rfl ?_
    refine aw_V4i (k := 5) C dX7_isInTheWay_22 cv_X7_110 (by decide) rfl rfl rfl (cb_isOverEnd hI hK1 hK2 hi hk (by omega) hO hP hH hA hs hs2 hw) ⟨Nat.le_of_ble_eq_true rfl, Nat.le_of_ble_eq_true rfl⟩ (Nat.le_of_ble_eq_true rfl) ?_
    refine aw_if_eq_b (tgt := 32) C dX7_isInTheWay_25 (by decide) (fun h25 => ?_) (fun h25 => ?_)
    · refine aw_iconst C dX7_isInTheWay_32 ki_0 ?_
      refine aw_zret C hr dX7_isInTheWay_33 (by decide) ?_
      exact PI.mk (bi_f (by unfold wyG; rw [h8, h25]; rfl)) rfl
    · refine aw_iconst C dX7_isInTheWay_28 ki_1 ?_
      refine aw_goto (tgt := 33) C dX7_isInTheWay_29 (by decide) ?_
      refine aw_zret C hr dX7_isInTheWay_33 (by decide) ?_
      exact PI.mk (bi_t (by unfold wyG; rw [h8, h25]; rfl)) rfl
set_option maxRecDepth 20000 in
/-- findBlockers, its loop -/
theorem cb_findBlockers_0 {l : Launch} {D : va_G} {cy : Nat → ClassId} {z : Nat → Nat} {q : Nat → Nat} {p : Program} {e : Env} {s : State} {m : MethodId} {args : Array Value} {below : List Frame} {meth : Method} {c : Code} {Q : State → Prop} (hI : wI 49 q) (C : Cx p s m args meth c cX7_findBlockers 3 RX7 D cy z 49 q) (hr : meth.sig.returnType = none) {tl dsp dwi dat bsp bwi pnx phd vkn : Nat} {dff lbl lsh lpk : Int32} {lett : Nat → Nat} {num lim now : Nat → Int32} {prw plr hgr : Nat → Nat → Int32} {wio wys trl : Nat → Int32} {clr : Nat → Int64} {tld tie fst las saw : Nat → Int32} (K : ∀ bk bd : Nat → Int32, (∀ j, j < 8 → bk j = nI 0 ∧ bd j = nI 0) → AW p l e { frames := 3, cells := 0, slots := 0, locals := 86 } s m args below meth c D 49 q 3 Q (bwC cy q tl dsp dwi dat bsp bwi pnx phd vkn dff lbl lsh lpk lett num lim now prw plr hgr bk bd wio wys trl clr tld tie fst las saw) [(0, .ref (q 5)), (1, .int (nI 8))] 36 []) : ∀ (d : Nat) (k : Nat) (bk : Nat → Int32) (bd : Nat → Int32), 8 - k < d → (k ≤ 8) → (∀ j, j < k → bk j = nI 0 ∧ bd j = nI 0) → AW p l e { frames := 3, cells := 0, slots := 0, locals := 86 } s m args below meth c D 49 q 3 Q (bwC cy q tl dsp dwi dat bsp bwi pnx phd vkn dff lbl lsh lpk lett num lim now prw plr hgr bk bd wio wys trl clr tld tie fst las saw) [(0, .ref (q 5)), (1, .int (nI k))] 10 [] := by
  intro d
  induction d with
  | zero => intro k bk bd hd; exact absurd hd (Nat.not_lt_zero _)
  | succ d ih =>
    intro k bk bd hd iv0 iv1
    refine aw_iload_n C dX7_findBlockers_10 (i := 1) rfl rfl ?_
    refine aw_bipush C dX7_findBlockers_11 kb_8 ?_
    refine aw_icmp_ge_n (tgt := 36) C dX7_findBlockers_13 (by decide) (by omega) (by omega) (fun h13 => ?_) (fun h13 => ?_)
    · obtain rfl : k = 8 := by omega
      exact K _ _ iv1
    · refine aw_aload_n C dX7_findBlockers_16 (i := 0) rfl rfl ?_
      refine aw_get (k := 5) C dX7_findBlockers_17 fl_X7_19 (by decide) rfl rfl ?_
      refine aw_iload_n C dX7_findBlockers_20 (i := 1) rfl rfl ?_
      refine aw_iconst C dX7_findBlockers_21 ki_0 ?_
      refine aw_iast (k := 38) C dX7_findBlockers_22 (by decide) (rfl) (rfl) (by omega) (by decide) (bw_a_bk) ?_
      refine aw_aload_n C dX7_findBlockers_23 (i := 0) rfl rfl ?_
      refine aw_get (k := 5) C dX7_findBlockers_24 fl_X7_23 (by decide) rfl rfl ?_
      refine aw_iload_n C dX7_findBlockers_27 (i := 1) rfl rfl ?_
      refine aw_iconst C dX7_findBlockers_28 ki_0 ?_
      refine aw_iast (k := 39) C dX7_findBlockers_29 (by decide) (rfl) (rfl) (by omega) (by decide) (bw_a_bd) ?_
      refine aw_iinc_n (lv' := [(0, _), (1, _)]) C dX7_findBlockers_30 rfl ki_1 (Nat.le_of_ble_eq_true rfl) rfl ?_
      refine aw_goto (tgt := 10) C dX7_findBlockers_33 (by decide) ?_
      refine ih (k + 1) _ _ (by omega) (by omega) (fun j hj => ?_)
      rcases Nat.lt_or_ge j k with g9 | g9
      · rw [upd_un (by omega), upd_un (by omega)]
        exact iv1 j g9
      · obtain rfl : j = k := by omega
        exact ⟨upd_us, upd_us⟩
set_option maxRecDepth 20000 in
/-- findBlockers, its loop -/
theorem cb_findBlockers_i {l : Launch} {D : va_G} {cy : Nat → ClassId} {z : Nat → Nat} {q : Nat → Nat} {p : Program} {e : Env} {s : State} {m : MethodId} {args : Array Value} {below : List Frame} {meth : Method} {c : Code} {Q : State → Prop} (hI : wI 49 q) (C : Cx p s m args meth c cX7_findBlockers 3 RX7 D cy z 49 q) (hr : meth.sig.returnType = none) {tl dsp dwi dat bsp bwi pnx phd vkn : Nat} {dff lbl lsh lpk : Int32} {lett : Nat → Nat} {num lim now : Nat → Int32} {prw plr hgr : Nat → Nat → Int32} {wio wys trl : Nat → Int32} {clr : Nat → Int64} {tld tie fst las saw : Nat → Int32} {i : Nat} (hi : i < bwi) {h : Nat → Int32} (hO : hOK h bwi) (hP : vPl plr h bsp bwi) (hH : vHg hgr h bsp bwi) (hA : agr now h bwi) (hs : 8 ≤ bsp) (hs2 : bsp ≤ 40) (hw : bwi ≤ 8) (K : ∀ bk bd : Nat → Int32, (∀ j, j < 8 → bk j = (if j < i then blA h bsp j bwi else if j = i then blA h bsp i bwi else nI 0) ∧ bd j = (if j < bwi then (if j < bwi then bdA h bsp j (i + 1) else bdA h bsp j i) else nI 0)) → AW p l e { frames := 3, cells := 0, slots := 0, locals := 86 } s m args below meth c D 49 q 3 Q (bwC cy q tl dsp dwi dat bsp bwi pnx phd vkn dff lbl lsh lpk lett num lim now prw plr hgr bk bd wio wys trl clr tld tie fst las saw) [(0, .ref (q 5)), (1, .int (nI i)), (2, .int (nI bwi))] 112 []) : ∀ (d : Nat) (k : Nat) (bk : Nat → Int32) (bd : Nat → Int32), bwi - k < d → (k ≤ bwi) → (∀ j, j < 8 → bk j = (if j < i then blA h bsp j bwi else if j = i then blA h bsp i k else nI 0) ∧ bd j = (if j < bwi then (if j < k then bdA h bsp j (i + 1) else bdA h bsp j i) else nI 0)) → AW p l e { frames := 3, cells := 0, slots := 0, locals := 86 } s m args below meth c D 49 q 3 Q (bwC cy q tl dsp dwi dat bsp bwi pnx phd vkn dff lbl lsh lpk lett num lim now prw plr hgr bk bd wio wys trl clr tld tie fst las saw) [(0, .ref (q 5)), (1, .int (nI i)), (2, .int (nI k))] 51 [] := by
  intro d
  induction d with
  | zero => intro k bk bd hd; exact absurd hd (Nat.not_lt_zero _)
  | succ d ih =>
    intro k bk bd hd iv0 iv1
    refine aw_iload_n C dX7_findBlockers_51 (i := 2) rfl rfl ?_
    refine aw_aload_n C dX7_findBlockers_52 (i := 0) rfl rfl ?_
    refine aw_get (k := 5) C dX7_findBlockers_53 fl_X7_26 (by decide) rfl rfl ?_
    refine aw_get (k := 3) C dX7_findBlockers_56 fl_X7_30 (by decide) rfl rfl ?_
    refine aw_icmp_ge_n (tgt := 112) C dX7_findBlockers_59 (by decide) (by omega) (by omega) (fun h59 => ?_) (fun h59 => ?_)
    · obtain rfl : k = bwi := by omega
      exact K _ _ iv1
    · refine aw_iload_n C dX7_findBlockers_62 (i := 1) rfl rfl ?_
      refine aw_iload_n C dX7_findBlockers_63 (i := 2) rfl rfl ?_
      refine aw_icmp_eq_n (tgt := 106) C dX7_findBlockers_64 (by decide) (by omega) (by omega) (fun h64 => ?_) (fun h64 => ?_)
      · refine aw_iinc_n (lv' := [(0, _), (1, _), (2, _)]) C dX7_findBlockers_106 rfl ki_1 (Nat.le_of_ble_eq_true rfl) rfl ?_
        refine aw_goto (tgt := 51) C dX7_findBlockers_109 (by decide) ?_
        refine ih (k + 1) _ _ (by omega) (by omega) (fun j hj => ?_)
        have h9 := iv1 j hj
        refine ⟨h9.1.trans ?_, h9.2.trans ?_⟩
        · rw [blA_s, if_pos h64]
        · by_cases g1 : j < bwi
          · rw [if_pos g1, if_pos g1]
            by_cases g2 : j < k
            · rw [if_pos g2, if_pos (by omega)]
            · rw [if_neg g2]
              by_cases g3 : j = k
              · rw [if_pos (by omega), bdA_s, if_pos (by omega)]
              · rw [if_neg (by omega)]
          · rw [if_neg g1, if_neg g1]
      · refine aw_aload_n C dX7_findBlockers_67 (i := 0) rfl rfl ?_
        refine aw_iload_n C dX7_findBlockers_68 (i := 2) rfl rfl ?_
        refine aw_aload_n C dX7_findBlockers_69 (i := 0) rfl rfl ?_
        refine aw_get (k := 5) C dX7_findBlockers_70 fl_X7_16 (by decide) rfl rfl ?_
        refine aw_iload_n C dX7_findBlockers_73 (i := 2) rfl rfl ?_
        refine aw_aald (k := 29) (n := k) C dX7_findBlockers_74 (by decide) rfl (rfl) (by omega) (by decide) rfl ?_
        refine aw_iload_n C dX7_findBlockers_75 (i := 1) rfl rfl ?_
        refine aw_V3i (k := 5) C dX7_findBlockers_76 cv_X7_106 (by decide) rfl rfl rfl (cb_isInTheWay hI (by omega) (bw_r_hgr (by omega)) (by omega) (by omega) hO hP hH hA hs hs2 hw) ⟨Nat.le_of_ble_eq_true rfl, Nat.le_of_ble_eq_true rfl⟩ (Nat.le_of_ble_eq_true rfl) ?_
        refine aw_if_eq_b (tgt := 106) C dX7_findBlockers_79 (by decide) (fun h79 => ?_) (fun h79 => ?_)
        · refine aw_iinc_n (lv' := [(0, _), (1, _), (2, _)]) C dX7_findBlockers_106 rfl ki_1 (Nat.le_of_ble_eq_true rfl) rfl ?_
          refine aw_goto (tgt := 51) C dX7_findBlockers_109 (by decide) ?_
          have w9 : way h bsp i k = false := by rw [wyG_way (fun y hy => hH k (by omega) y hy)] at h79; exact h79
          refine ih (k + 1) _ _ (by omega) (by omega) (fun j hj => ?_)
          have h9 := iv1 j hj
          refine ⟨h9.1.trans ?_, h9.2.trans ?_⟩
          · rw [blA_s, if_neg h64, if_neg (show ¬ way h bsp i k = true by rw [w9]; decide)]
          · by_cases g1 : j < bwi
            · rw [if_pos g1, if_pos g1]
              by_cases g2 : j < k
              · rw [if_pos g2, if_pos (by omega)]
              · rw [if_neg g2]
                by_cases g3 : j = k
                · rw [if_pos (by omega), g3, bdA_s, if_neg h64, if_neg (show ¬ way h bsp i k = true by rw [w9]; decide)]
                · rw [if_neg (by omega)]
            · rw [if_neg g1, if_neg g1]
        · refine aw_aload_n C dX7_findBlockers_82 (i := 0) rfl rfl ?_
          refine aw_get (k := 5) C dX7_findBlockers_83 fl_X7_19 (by decide) rfl rfl ?_
          refine aw_iload_n C dX7_findBlockers_86 (i := 1) rfl rfl ?_
          refine aw_dup2 C dX7_findBlockers_87 rfl rfl ?_
          refine aw_iald (k := 38) C dX7_findBlockers_88 (by decide) (rfl) (rfl) (by omega) (by decide) (rfl) ?_
          refine aw_iconst C dX7_findBlockers_89 ki_1 ?_
          refine aw_iload_n C dX7_findBlockers_90 (i := 2) rfl rfl ?_
          refine aw_ishl C dX7_findBlockers_91 ?_
          refine aw_ior C dX7_findBlockers_92 ?_
          refine aw_iast (k := 38) C dX7_findBlockers_93 (by decide) (rfl) (rfl) (by omega) (by decide) (bw_a_bk) ?_
          refine aw_aload_n C dX7_findBlockers_94 (i := 0) rfl rfl ?_
          refine aw_get (k := 5) C dX7_findBlockers_95 fl_X7_23 (by decide) rfl rfl ?_
          refine aw_iload_n C dX7_findBlockers_98 (i := 2) rfl rfl ?_
          refine aw_dup2 C dX7_findBlockers_99 rfl rfl ?_
          refine aw_iald (k := 39) C dX7_findBlockers_100 (by decide) (rfl) (rfl) (by omega) (by decide) (rfl) ?_
          refine aw_iconst C dX7_findBlockers_101 ki_1 ?_
          refine aw_iload_n C dX7_findBlockers_102 (i := 1) rfl rfl ?_
          refine aw_ishl C dX7_findBlockers_103 ?_
          refine aw_ior C dX7_findBlockers_104 ?_
          refine aw_iast (k := 39) C dX7_findBlockers_105 (by decide) (rfl) (rfl) (by omega) (by decide) (bw_a_bd) ?_
          refine aw_iinc_n (lv' := [(0, _), (1, _), (2, _)]) C dX7_findBlockers_106 rfl ki_1 (Nat.le_of_ble_eq_true rfl) rfl ?_
          refine aw_goto (tgt := 51) C dX7_findBlockers_109 (by decide) ?_
          have w9 : way h bsp i k = true := by rw [wyG_way (fun y hy => hH k (by omega) y hy)] at h79; exact h79
          refine ih (k + 1) _ _ (by omega) (by omega) (fun j hj => ⟨?_, ?_⟩)
          · by_cases g0 : j = i
            · rw [g0, upd_us, (iv1 i (by omega)).1, if_neg (by omega), if_pos rfl, if_neg (by omega), if_pos rfl, blA_s, if_neg h64, if_pos w9]
            · rw [upd_un g0, (iv1 j hj).1]
              by_cases g1 : j < i
              · rw [if_pos g1, if_pos g1]
              · rw [if_neg g1, if_neg g0, if_neg g1, if_neg g0]
          · by_cases g0 : j = k
            · rw [g0, upd_us, (iv1 k (by omega)).2, if_pos (by omega), if_neg (by omega), if_pos (by omega), if_pos (by omega), bdA_s, if_neg h64, if_pos w9]
            · rw [upd_un g0, (iv1 j hj).2]
              by_cases g1 : j < bwi
              · rw [if_pos g1, if_pos g1]
                by_cases g2 : j < k
                · rw [if_pos g2, if_pos (by omega)]
                · rw [if_neg g2, if_neg (by omega)]
              · rw [if_neg g1, if_neg g1]
set_option maxRecDepth 20000 in
/-- findBlockers, its loop -/
theorem cb_findBlockers_o {l : Launch} {D : va_G} {cy : Nat → ClassId} {z : Nat → Nat} {q : Nat → Nat} {p : Program} {e : Env} {s : State} {m : MethodId} {args : Array Value} {below : List Frame} {meth : Method} {c : Code} (hI : wI 49 q) (C : Cx p s m args meth c cX7_findBlockers 3 RX7 D cy z 49 q) (hr : meth.sig.returnType = none) {tl dsp dwi dat bsp bwi pnx phd vkn : Nat} {dff lbl lsh lpk : Int32} {lett : Nat → Nat} {num lim now : Nat → Int32} {prw plr hgr : Nat → Nat → Int32} {wio wys trl : Nat → Int32} {clr : Nat → Int64} {tld tie fst las saw : Nat → Int32} {h : Nat → Int32} (hO : hOK h bwi) (hP : vPl plr h bsp bwi) (hH : vHg hgr h bsp bwi) (hA : agr now h bwi) (hs : 8 ≤ bsp) (hs2 : bsp ≤ 40) (hw : bwi ≤ 8) : ∀ (d : Nat) (i : Nat) (bk : Nat → Int32) (bd : Nat → Int32), bwi - i < d → (i ≤ bwi) → (∀ j, j < 8 → bk j = (if j < i then blA h bsp j bwi else nI 0) ∧ bd j = (if j < bwi then bdA h bsp j i else nI 0)) → AW p l e { frames := 3, cells := 0, slots := 0, locals := 86 } s m args below meth c D 49 q 3 (MQ below (Qg D 49 q (PY (fun g => ∃ b8 b9, g = (bwC cy q tl dsp dwi dat bsp bwi pnx phd 1 dff lbl lsh lpk lett num lim now prw plr hgr b8 b9 wio wys trl clr tld tie fst las saw) ∧ vBk b8 b9 h bsp bwi)) (wA 49 q s.heap.size)) args s 0 0 (wA 49 q s.heap.size)) (bwC cy q tl dsp dwi dat bsp bwi pnx phd vkn dff lbl lsh lpk lett num lim now prw plr hgr bk bd wio wys trl clr tld tie fst las saw) [(0, .ref (q 5)), (1, .int (nI i))] 38 [] := by
  intro d
  induction d with
  | zero => intro i bk bd hd; exact absurd hd (Nat.not_lt_zero _)
  | succ d ih =>
    intro i bk bd hd iv0 iv1
    refine aw_iload_n C dX7_findBlockers_38 (i := 1) rfl rfl ?_
    refine aw_aload_n C dX7_findBlockers_39 (i := 0) rfl rfl ?_
    refine aw_get (k := 5) C dX7_findBlockers_40 fl_X7_26 (by decide) rfl rfl ?_
    refine aw_get (k := 3) C dX7_findBlockers_43 fl_X7_30 (by decide) rfl rfl ?_
    refine aw_icmp_ge_n (tgt := 118) C dX7_findBlockers_46 (by decide) (by omega) (by omega) (fun h46 => ?_) (fun h46 => ?_)
    · refine aw_aload_n C dX7_findBlockers_118 (i := 0) rfl rfl ?_
      refine aw_iconst C dX7_findBlockers_119 ki_1 ?_
      refine aw_put (k := 5) C dX7_findBlockers_120 fp_X7_48 (by decide) rfl rfl rfl (Nat.le_of_ble_eq_true rfl) bw_p_vkn ?_
      refine aw_vret C hr dX7_findBlockers_123 ?_
      obtain rfl : i = bwi := by omega
      exact ⟨rfl, _, _, rfl, iv1⟩
    · refine aw_iconst C dX7_findBlockers_49 ki_0 ?_
      refine aw_istore_n (lv' := [(0, _), (1, _), (2, _)]) C dX7_findBlockers_50 (i := 2) rfl (Nat.le_of_ble_eq_true rfl) rfl ?_
      refine cb_findBlockers_i hI C hr (by omega) hO hP hH hA hs hs2 hw (fun bk bd iv2 => ?_) (bwi + 1) 0 _ _ (by omega) (by omega) (fun j hj => ⟨(iv1 j hj).1.trans ?_, (iv1 j hj).2.trans ?_⟩)
      rotate_left
      · by_cases g1 : j < i
        · rw [if_pos g1, if_pos g1]
        · rw [if_neg g1, if_neg g1]
          by_cases g2 : j = i
          · rw [if_pos g2]; rfl
          · rw [if_neg g2]
      · by_cases g1 : j < bwi
        · rw [if_pos g1, if_pos g1, if_neg (Nat.not_lt_zero j)]
        · rw [if_neg g1, if_neg g1]
      refine aw_iinc_n (lv' := [(0, _), (1, _), (2, _)]) C dX7_findBlockers_112 rfl ki_1 (Nat.le_of_ble_eq_true rfl) rfl ?_
      refine aw_goto (tgt := 38) C dX7_findBlockers_115 (by decide) ?_
      refine aw_take 2 (lv' := [(0, _), (1, _)]) rfl ?_
      refine ih (i + 1) _ _ (by omega) (by omega) (fun j hj => ⟨(iv2 j hj).1.trans ?_, (iv2 j hj).2.trans ?_⟩)
      · by_cases g1 : j < i
        · rw [if_pos g1, if_pos (by omega)]
        · rw [if_neg g1]
          by_cases g2 : j = i
          · rw [if_pos g2, if_pos (by omega), g2]
          · rw [if_neg g2, if_neg (by omega)]
      · by_cases g1 : j < bwi
        · rw [if_pos g1, if_pos g1, if_pos g1]
        · rw [if_neg g1, if_neg g1]
set_option maxRecDepth 20000 in
/-- findBlockers -/
theorem cb_findBlockers {l : Launch} {D : va_G} {cy : Nat → ClassId} {z : Nat → Nat} {q : Nat → Nat} (hI : wI 49 q) {tl dsp dwi dat bsp bwi pnx phd vkn : Nat} {dff lbl lsh lpk : Int32} {lett : Nat → Nat} {num lim now : Nat → Int32} {prw plr hgr : Nat → Nat → Int32} {bk bd wio wys trl : Nat → Int32} {clr : Nat → Int64} {tld tie fst las saw : Nat → Int32} {h : Nat → Int32} (hO : hOK h bwi) (hP : vPl plr h bsp bwi) (hH : vHg hgr h bsp bwi) (hA : agr now h bwi) (hB : vkn = 0 ∨ (vkn = 1 ∧ vBk bk bd h bsp bwi)) (hs : 8 ≤ bsp) (hs2 : bsp ≤ 40) (hw : bwi ≤ 8) : Ct l yX7_findBlockers cX7_findBlockers 3 none 3 86 D cy z 49 q [.ref (q 5)] (bwC cy q tl dsp dwi dat bsp bwi pnx phd vkn dff lbl lsh lpk lett num lim now prw plr hgr bk bd wio wys trl clr tld tie fst las saw) (PY (fun g => ∃ b8 b9, g = (bwC cy q tl dsp dwi dat bsp bwi pnx phd 1 dff lbl lsh lpk lett num lim now prw plr hgr b8 b9 wio wys trl clr tld tie fst las saw) ∧ vBk b8 b9 h bsp bwi)) := by
  refine Ct.of (own := RX7) (by decide) rfl hI (Nat.le_of_ble_eq_true rfl) ?_
  intro p e s m args below meth c C hr
  refine aw_lv (lv' := [(0, .ref (q 5))]) (fun x hx => hx) ?_
  refine aw_aload_n C dX7_findBlockers_0 (i := 0) rfl rfl ?_
  refine aw_get (k := 5) C dX7_findBlockers_1 fl_X7_48 (by decide) rfl rfl ?_
  refine aw_if_eq_n (tgt := 8) C dX7_findBlockers_4 (by decide) (by omega) (fun h4 => ?_) (fun h4 => ?_)
  · refine aw_iconst C dX7_findBlockers_8 ki_0 ?_
    refine aw_istore_n (lv' := [(0, _), (1, _)]) C dX7_findBlockers_9 (i := 1) rfl (Nat.le_of_ble_eq_true rfl) rfl ?_
    refine cb_findBlockers_0 hI C hr (fun bk bd iv1 => ?_) 9 0 _ _ (by omega) (by omega) (fun j hj => absurd hj (Nat.not_lt_zero j))
    refine aw_iconst C dX7_findBlockers_36 ki_0 ?_
    refine aw_istore_n (lv' := [(0, _), (1, _)]) C dX7_findBlockers_37 (i := 1) rfl (Nat.le_of_ble_eq_true rfl) rfl ?_
    exact cb_findBlockers_o hI C hr hO hP hH hA hs hs2 hw (bwi + 1) 0 _ _ (by omega) (by omega) (fun j hj => ⟨(iv1 j hj).1.trans (if_neg (Nat.not_lt_zero j)).symm, (iv1 j hj).2.trans (by split <;> rfl)⟩)
  · have hv1 : vkn = 1 := by omega
    subst hv1
    refine aw_vret C hr dX7_findBlockers_7 ?_
    rcases hB with hB | ⟨-, hB⟩
    · omega
    · exact ⟨rfl, _, _, rfl, hB⟩
set_option maxRecDepth 20000 in
/-- blockersOf -/
theorem cb_blockersOf {l : Launch} {D : va_G} {cy : Nat → ClassId} {z : Nat → Nat} {q : Nat → Nat} (hI : wI 49 q) {tl dsp dwi dat bsp bwi pnx phd vkn : Nat} {dff lbl lsh lpk : Int32} {lett : Nat → Nat} {num lim now : Nat → Int32} {prw plr hgr : Nat → Nat → Int32} {bk bd wio wys trl : Nat → Int32} {clr : Nat → Int64} {tld tie fst las saw : Nat → Int32} {i : Nat} (hi : i < bwi) {h : Nat → Int32} (hO : hOK h bwi) (hP : vPl plr h bsp bwi) (hH : vHg hgr h bsp bwi) (hA : agr now h bwi) (hB : vkn = 0 ∨ (vkn = 1 ∧ vBk bk bd h bsp bwi)) (hs : 8 ≤ bsp) (hs2 : bsp ≤ 40) (hw : bwi ≤ 8) : Ct l yX7_blockersOf cX7_blockersOf 2 (some .int) 4 108 D cy z 49 q [.ref (q 5), .int (nI i)] (bwC cy q tl dsp dwi dat bsp bwi pnx phd vkn dff lbl lsh lpk lett num lim now prw plr hgr bk bd wio wys trl clr tld tie fst las saw) (PX (fun x g => x = blA h bsp i bwi ∧ ∃ b8 b9, g = (bwC cy q tl dsp dwi dat bsp bwi pnx phd 1 dff lbl lsh lpk lett num lim now prw plr hgr b8 b9 wio wys trl clr tld tie fst las saw) ∧ vBk b8 b9 h bsp bwi)) := by
  refine Ct.of (own := RX7) (by decide) rfl hI (Nat.le_of_ble_eq_true rfl) ?_
  intro p e s m args below meth c C hr
  refine aw_lv (lv' := [(0, .ref (q 5)), (1, .int (nI i))]) (fun x hx => hx) ?_
  refine aw_aload_n C dX7_blockersOf_0 (i := 0) rfl rfl ?_
  refine aw_V0y (k := 5) C dX7_blockersOf_1 cv_X7_103 (by decide) rfl rfl rfl (cb_findBlockers hI hO hP hH hA hB hs hs2 hw) ⟨Nat.le_of_ble_eq_true rfl, Nat.le_of_ble_eq_true rfl⟩ (Nat.le_of_ble_eq_true rfl) (fun g hp9 => ?_)
  obtain ⟨b8, b9, rfl, hb9⟩ := hp9
  refine aw_aload_n C dX7_blockersOf_4 (i := 0) rfl rfl ?_
  refine aw_get (k := 5) C dX7_blockersOf_5 fl_X7_19 (by decide) rfl rfl ?_
  refine aw_iload_n C dX7_blockersOf_8 (i := 1) rfl rfl ?_
  refine aw_iald (k := 38) C dX7_blockersOf_9 (by decide) (rfl) (rfl) (by omega) (by decide) (((hb9 i (by omega)).1.trans (if_pos hi))) ?_
  refine aw_iret C hr dX7_blockersOf_10 ?_
  exact ⟨_, rfl, rfl, _, _, rfl, hb9⟩
set_option maxRecDepth 20000 in
/-- blockedByEach -/
theorem cb_blockedByEach {l : Launch} {D : va_G} {cy : Nat → ClassId} {z : Nat → Nat} {q : Nat → Nat} (hI : wI 49 q) {tl dsp dwi dat bsp bwi pnx phd vkn : Nat} {dff lbl lsh lpk : Int32} {lett : Nat → Nat} {num lim now : Nat → Int32} {prw plr hgr : Nat → Nat → Int32} {bk bd wio wys trl : Nat → Int32} {clr : Nat → Int64} {tld tie fst las saw : Nat → Int32} {h : Nat → Int32} (hO : hOK h bwi) (hP : vPl plr h bsp bwi) (hH : vHg hgr h bsp bwi) (hA : agr now h bwi) (hB : vkn = 0 ∨ (vkn = 1 ∧ vBk bk bd h bsp bwi)) (hs : 8 ≤ bsp) (hs2 : bsp ≤ 40) (hw : bwi ≤ 8) : Ct l yX7_blockedByEach cX7_blockedByEach 1 (some (.array .int)) 4 108 D cy z 49 q [.ref (q 5)] (bwC cy q tl dsp dwi dat bsp bwi pnx phd vkn dff lbl lsh lpk lett num lim now prw plr hgr bk bd wio wys trl clr tld tie fst las saw) (PR (q 39) (fun g => ∃ b8 b9, g = (bwC cy q tl dsp dwi dat bsp bwi pnx phd 1 dff lbl lsh lpk lett num lim now prw plr hgr b8 b9 wio wys trl clr tld tie fst las saw) ∧ vBk b8 b9 h bsp bwi)) := by
  refine Ct.of (own := RX7) (by decide) rfl hI (Nat.le_of_ble_eq_true rfl) ?_
  intro p e s m args below meth c C hr
  refine aw_lv (lv' := [(0, .ref (q 5))]) (fun x hx => hx) ?_
  refine aw_aload_n C dX7_blockedByEach_0 (i := 0) rfl rfl ?_
  refine aw_V0y (k := 5) C dX7_blockedByEach_1 cv_X7_103 (by decide) rfl rfl rfl (cb_findBlockers hI hO hP hH hA hB hs hs2 hw) ⟨Nat.le_of_ble_eq_true rfl, Nat.le_of_ble_eq_true rfl⟩ (Nat.le_of_ble_eq_true rfl) (fun g hp9 => ?_)
  obtain ⟨b8, b9, rfl, hb9⟩ := hp9
  refine aw_aload_n C dX7_blockedByEach_4 (i := 0) rfl rfl ?_
  refine aw_get (k := 5) C dX7_blockedByEach_5 fl_X7_23 (by decide) rfl rfl ?_
  refine aw_aret C hr dX7_blockedByEach_8 ?_
  exact ⟨rfl, _, _, rfl, hb9⟩
