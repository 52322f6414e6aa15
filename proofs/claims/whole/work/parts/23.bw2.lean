-- BondedWires: the draft (reading)
def figI (c : Nat) : Int32 := if dg c = true then nI (c - 48) else -1
/-- a number and the letter e behind it -/
def rnO (t : Nat → Nat) (p e : Nat) : Bool := dg (t p) && decide (t (nmE t p) = e)
theorem nmE_dg {t : Nat → Nat} {p : Nat} : (p < nmE t p) ↔ dg (t p) = true := by
  unfold nmE
  cases h : dg (t p) with
  | false => simp
  | true => simp; split <;> omega
theorem m1_lt {a : Nat} (ha : a < 2147483648) : (-1 : Int32) < nI a := by
  rw [Int32.lt_iff_toInt_lt, nI_toInt ha]
  have : (-1 : Int32).toInt = -1 := by decide
  omega
set_option maxRecDepth 20000 in
/-- figure -/
theorem cb_figure {l : Launch} {D : va_G} {cy : Nat → ClassId} {z : Nat → Nat} {q : Nat → Nat} {N : Nat} (hI : wI N q) {f : wS} {x : Nat} (hx : x ≤ 1000) : Ct l yX1_figure cX1_figure 1 (some .int) 0 0 D cy z N q [.int (nI x)] f (PI (figI x) f) := by
  refine Ct.of (own := RX1) (by decide) rfl hI (Nat.le_of_ble_eq_true rfl) ?_
  intro p e s m args below meth c C hr
  refine aw_lv (lv' := [(0, .int (nI x))]) (fun x hx => hx) ?_
  refine aw_iload_n C dX1_figure_0 (i := 0) rfl rfl ?_
  refine aw_bipush C dX1_figure_1 kb_48 ?_
  refine aw_icmp_lt_n (tgt := 19) C dX1_figure_3 (by decide) (by omega) (by omega) (fun h3 => ?_) (fun h3 => ?_)
  · refine aw_iconst C dX1_figure_19 ki_m1 ?_
    refine aw_iret C hr dX1_figure_20 ?_
    exact PI.mk (by unfold figI; rw [if_neg (by rw [dg_f (by omega)]; decide)]) rfl
  · refine aw_iload_n C dX1_figure_6 (i := 0) rfl rfl ?_
    refine aw_bipush C dX1_figure_7 kb_57 ?_
    refine aw_icmp_gt_n (tgt := 19) C dX1_figure_9 (by decide) (by omega) (by omega) (fun h9 => ?_) (fun h9 => ?_)
    · refine aw_iconst C dX1_figure_19 ki_m1 ?_
      refine aw_iret C hr dX1_figure_20 ?_
      exact PI.mk (by unfold figI; rw [if_neg (by rw [dg_f (by omega)]; decide)]) rfl
    · refine aw_iload_n C dX1_figure_12 (i := 0) rfl rfl ?_
      refine aw_bipush C dX1_figure_13 kb_48 ?_
      refine aw_isub_n C dX1_figure_15 (by omega) ?_
      refine aw_goto (tgt := 20) C dX1_figure_16 (by decide) ?_
      refine aw_iret C hr dX1_figure_20 ?_
      exact PI.mk (by unfold figI; rw [if_pos (dg_t (by omega) (by omega))]) rfl
theorem fg_v {c : Nat} (h : dg c = true) : figI c = nI (c - 48) := if_pos h
theorem fg_n {c : Nat} (h : ¬ 0 ≤ figI c) : dg c = false := by
  cases hd : dg c with
  | false => rfl
  | true =>
    rw [fg_v hd] at h
    simp only [dg, Bool.and_eq_true, decide_eq_true_eq] at hd
    exact absurd (nI_pos' (by omega)) h
theorem fg_p {c : Nat} (h : 0 ≤ figI c) : dg c = true := by
  cases hd : dg c with
  | true => rfl
  | false =>
    unfold figI at h
    rw [if_neg (by rw [hd]; decide)] at h
    exact absurd h (by decide)
theorem fg_n9 {c : Nat} (h : figI c < 0) : dg c = false := fg_n (i_nle h)
theorem fg_p9 {c : Nat} (h : ¬ figI c < 0) : dg c = true := fg_p (i_le h)
set_option maxRecDepth 20000 in
/-- readNumber -/
theorem cb_readNumber {l : Launch} {D : va_G} {cy : Nat → ClassId} {z : Nat → Nat} {q : Nat → Nat} (hI : wI 49 q) {tl dsp dwi dat bsp bwi pnx phd vkn : Nat} {dff lbl lsh lpk : Int32} {lett : Nat → Nat} {num lim now : Nat → Int32} {prw plr hgr : Nat → Nat → Int32} {bk bd wio wys trl : Nat → Int32} {clr : Nat → Int64} {tld tie fst las saw : Nat → Int32} {e0 : Nat} (he : e0 ≤ 1000) (hp : dat ≤ 900) (hl : tl ≤ 200) (hb : ∀ j, lett j ≤ 1000) : Ct l yX1_readNumber cX1_readNumber 5 (some .int) 1 21 D cy z 49 q [.ref (q 2), .ref (q 1), .int (nI e0)] (bwC cy q tl dsp dwi dat bsp bwi pnx phd vkn dff lbl lsh lpk lett num lim now prw plr hgr bk bd wio wys trl clr tld tie fst las saw) (PX (fun x g => ∃ d, g = (bwC cy q tl dsp dwi d bsp bwi pnx phd vkn dff lbl lsh lpk lett num lim now prw plr hgr bk bd wio wys trl clr tld tie fst las saw) ∧ ((rnO (lt0 tl lett) dat e0 = true ∧ x = nI (nmV (lt0 tl lett) dat) ∧ d = nmE (lt0 tl lett) dat + 1) ∨ (rnO (lt0 tl lett) dat e0 = false ∧ x = -1)))) := by
  refine Ct.of (own := RX1) (by decide) rfl hI (Nat.le_of_ble_eq_true rfl) ?_
  intro p e s m args below meth c C hr
  refine aw_lv (lv' := [(0, .ref (q 2)), (1, .ref (q 1)), (2, .int (nI e0))]) (fun x hx => hx) ?_
  refine aw_aload_n C dX1_readNumber_0 (i := 1) rfl rfl ?_
  refine aw_aload_n C dX1_readNumber_1 (i := 0) rfl rfl ?_
  refine aw_get (k := 2) C dX1_readNumber_2 fl_X1_25 (by decide) rfl rfl ?_
  refine aw_V1i (k := 1) C dX1_readNumber_5 cv_X1_49 (by decide) rfl rfl rfl (cb_letterAt hI (by omega) hl hb) ⟨Nat.le_of_ble_eq_true rfl, Nat.le_of_ble_eq_true rfl⟩ (Nat.le_of_ble_eq_true rfl) ?_
  refine aw_S1i C dX1_readNumber_8 cs_X1_76 (cb_figure hI (lt0_b hb)) ⟨Nat.le_of_ble_eq_true rfl, Nat.le_of_ble_eq_true rfl⟩ (Nat.le_of_ble_eq_true rfl) ?_
  refine aw_istore_n (lv' := [(0, _), (1, _), (2, _), (3, _)]) C dX1_readNumber_11 (i := 3) rfl (Nat.le_of_ble_eq_true rfl) rfl ?_
  refine aw_iload_n C dX1_readNumber_12 (i := 3) rfl rfl ?_
  refine aw_if_ge (tgt := 18) C dX1_readNumber_13 (by decide) (fun h13 => ?_) (fun h13 => ?_)
  · have d0 : dg (lt0 tl lett dat) = true := fg_p h13
    refine aw_aload_n C dX1_readNumber_18 (i := 0) rfl rfl ?_
    refine aw_dup C dX1_readNumber_19 rfl ?_
    refine aw_get (k := 2) C dX1_readNumber_20 fl_X1_25 (by decide) rfl rfl ?_
    refine aw_iconst C dX1_readNumber_23 ki_1 ?_
    refine aw_iadd_n C dX1_readNumber_24 ?_
    refine aw_put (k := 2) C dX1_readNumber_25 fp_X1_25 (by decide) rfl rfl rfl (Nat.le_of_ble_eq_true rfl) bw_p_dat ?_
    refine aw_aload_n C dX1_readNumber_28 (i := 1) rfl rfl ?_
    refine aw_aload_n C dX1_readNumber_29 (i := 0) rfl rfl ?_
    refine aw_get (k := 2) C dX1_readNumber_30 fl_X1_25 (by decide) rfl rfl ?_
    refine aw_V1i (k := 1) C dX1_readNumber_33 cv_X1_49 (by decide) rfl rfl rfl (cb_letterAt hI (by omega) hl hb) ⟨Nat.le_of_ble_eq_true rfl, Nat.le_of_ble_eq_true rfl⟩ (Nat.le_of_ble_eq_true rfl) ?_
    refine aw_S1i C dX1_readNumber_36 cs_X1_76 (cb_figure hI (lt0_b hb)) ⟨Nat.le_of_ble_eq_true rfl, Nat.le_of_ble_eq_true rfl⟩ (Nat.le_of_ble_eq_true rfl) ?_
    refine aw_istore (lv' := [(0, _), (1, _), (2, _), (3, _), (4, _)]) C dX1_readNumber_39 (Nat.le_of_ble_eq_true rfl) rfl ?_
    refine aw_iload C dX1_readNumber_41 rfl ?_
    refine aw_if_lt (tgt := 64) C dX1_readNumber_43 (by decide) (fun h43 => ?_) (fun h43 => ?_)
    · refine aw_aload_n C dX1_readNumber_64 (i := 1) rfl rfl ?_
      refine aw_aload_n C dX1_readNumber_65 (i := 0) rfl rfl ?_
      refine aw_get (k := 2) C dX1_readNumber_66 fl_X1_25 (by decide) rfl rfl ?_
      refine aw_V1i (k := 1) C dX1_readNumber_69 cv_X1_49 (by decide) rfl rfl rfl (cb_letterAt hI (by omega) hl hb) ⟨Nat.le_of_ble_eq_true rfl, Nat.le_of_ble_eq_true rfl⟩ (Nat.le_of_ble_eq_true rfl) ?_
      refine aw_iload_n C dX1_readNumber_72 (i := 2) rfl rfl ?_
      refine aw_icmp_eq_n (tgt := 78) C dX1_readNumber_73 (by decide) (by first | omega | exact Nat.lt_of_le_of_lt (lt0_b hb) (by decide)) (by first | omega | exact Nat.lt_of_le_of_lt (lt0_b hb) (by decide)) (fun h73 => ?_) (fun h73 => ?_)
      · refine aw_aload_n C dX1_readNumber_78 (i := 0) rfl rfl ?_
        refine aw_dup C dX1_readNumber_79 rfl ?_
        refine aw_get (k := 2) C dX1_readNumber_80 fl_X1_25 (by decide) rfl rfl ?_
        refine aw_iconst C dX1_readNumber_83 ki_1 ?_
        refine aw_iadd_n C dX1_readNumber_84 ?_
        refine aw_put (k := 2) C dX1_readNumber_85 fp_X1_25 (by decide) rfl rfl rfl (Nat.le_of_ble_eq_true rfl) bw_p_dat ?_
        refine aw_iload_n C dX1_readNumber_88 (i := 3) rfl rfl ?_
        refine aw_iret C hr dX1_readNumber_89 ?_
        have d1 : dg (lt0 tl lett (dat + 1)) = false := fg_n9 h43
        have eE : nmE (lt0 tl lett) dat = dat + 1 := by unfold nmE; rw [if_pos d0, if_neg (by rw [d1]; decide)]
        have eV : nmV (lt0 tl lett) dat = lt0 tl lett dat - 48 := by unfold nmV; rw [if_pos d0, if_neg (by rw [d1]; decide)]
        refine ⟨_, rfl, _, rfl, Or.inl ⟨by unfold rnO; rw [eE, d0]; simp [h73], ?_, ?_⟩⟩
        · rw [eV, fg_v d0]
        · rw [eE]
      · refine aw_iconst C dX1_readNumber_76 ki_m1 ?_
        refine aw_iret C hr dX1_readNumber_77 ?_
        have d1 : dg (lt0 tl lett (dat + 1)) = false := fg_n9 h43
        have eE : nmE (lt0 tl lett) dat = dat + 1 := by unfold nmE; rw [if_pos d0, if_neg (by rw [d1]; decide)]
        have eV : nmV (lt0 tl lett) dat = lt0 tl lett dat - 48 := by unfold nmV; rw [if_pos d0, if_neg (by rw [d1]; decide)]
        exact ⟨_, rfl, _, rfl, Or.inr ⟨by unfold rnO; rw [eE, d0]; simp [h73], rfl⟩⟩
    · refine aw_bipush C dX1_readNumber_46 kb_10 ?_
      refine aw_iload_n C dX1_readNumber_48 (i := 3) rfl rfl ?_
      refine aw_imul C dX1_readNumber_49 ?_
      refine aw_iload C dX1_readNumber_50 rfl ?_
      refine aw_iadd C dX1_readNumber_52 ?_
      refine aw_istore_n (lv' := [(0, _), (1, _), (2, _), (3, _), (4, _)]) C dX1_readNumber_53 (i := 3) rfl (Nat.le_of_ble_eq_true rfl) rfl ?_
      refine aw_aload_n C dX1_readNumber_54 (i := 0) rfl rfl ?_
      refine aw_dup C dX1_readNumber_55 rfl ?_
      refine aw_get (k := 2) C dX1_readNumber_56 fl_X1_25 (by decide) rfl rfl ?_
      refine aw_iconst C dX1_readNumber_59 ki_1 ?_
      refine aw_iadd_n C dX1_readNumber_60 ?_
      refine aw_put (k := 2) C dX1_readNumber_61 fp_X1_25 (by decide) rfl rfl rfl (Nat.le_of_ble_eq_true rfl) bw_p_dat ?_
      refine aw_aload_n C dX1_readNumber_64 (i := 1) rfl rfl ?_
      refine aw_aload_n C dX1_readNumber_65 (i := 0) rfl rfl ?_
      refine aw_get (k := 2) C dX1_readNumber_66 fl_X1_25 (by decide) rfl rfl ?_
      refine aw_V1i (k := 1) C dX1_readNumber_69 cv_X1_49 (by decide) rfl rfl rfl (cb_letterAt hI (by omega) hl hb) ⟨Nat.le_of_ble_eq_true rfl, Nat.le_of_ble_eq_true rfl⟩ (Nat.le_of_ble_eq_true rfl) ?_
      refine aw_iload_n C dX1_readNumber_72 (i := 2) rfl rfl ?_
      refine aw_icmp_eq_n (tgt := 78) C dX1_readNumber_73 (by decide) (by first | omega | exact Nat.lt_of_le_of_lt (lt0_b hb) (by decide)) (by first | omega | exact Nat.lt_of_le_of_lt (lt0_b hb) (by decide)) (fun h73 => ?_) (fun h73 => ?_)
      · refine aw_aload_n C dX1_readNumber_78 (i := 0) rfl rfl ?_
        refine aw_dup C dX1_readNumber_79 rfl ?_
        refine aw_get (k := 2) C dX1_readNumber_80 fl_X1_25 (by decide) rfl rfl ?_
        refine aw_iconst C dX1_readNumber_83 ki_1 ?_
        refine aw_iadd_n C dX1_readNumber_84 ?_
        refine aw_put (k := 2) C dX1_readNumber_85 fp_X1_25 (by decide) rfl rfl rfl (Nat.le_of_ble_eq_true rfl) bw_p_dat ?_
        refine aw_iload_n C dX1_readNumber_88 (i := 3) rfl rfl ?_
        refine aw_iret C hr dX1_readNumber_89 ?_
        have d1 : dg (lt0 tl lett (dat + 1)) = true := fg_p9 h43
        have eE : nmE (lt0 tl lett) dat = dat + 1 + 1 := by unfold nmE; rw [if_pos d0, if_pos d1]
        have eV : nmV (lt0 tl lett) dat = 10 * (lt0 tl lett dat - 48) + (lt0 tl lett (dat + 1) - 48) := by unfold nmV; rw [if_pos d0, if_pos d1]
        refine ⟨_, rfl, _, rfl, Or.inl ⟨by unfold rnO; rw [eE, d0]; simp [h73], ?_, ?_⟩⟩
        · rw [eV, fg_v d0, fg_v d1, pk_mul, nI_add]
        · rw [eE]
      · refine aw_iconst C dX1_readNumber_76 ki_m1 ?_
        refine aw_iret C hr dX1_readNumber_77 ?_
        have d1 : dg (lt0 tl lett (dat + 1)) = true := fg_p9 h43
        have eE : nmE (lt0 tl lett) dat = dat + 1 + 1 := by unfold nmE; rw [if_pos d0, if_pos d1]
        have eV : nmV (lt0 tl lett) dat = 10 * (lt0 tl lett dat - 48) + (lt0 tl lett (dat + 1) - 48) := by unfold nmV; rw [if_pos d0, if_pos d1]
        exact ⟨_, rfl, _, rfl, Or.inr ⟨by unfold rnO; rw [eE, d0]; simp [h73], rfl⟩⟩
  · refine aw_iconst C dX1_readNumber_16 ki_m1 ?_
    refine aw_iret C hr dX1_readNumber_17 ?_
    have d0 : dg (lt0 tl lett dat) = false := fg_n h13
    exact ⟨_, rfl, _, rfl, Or.inr ⟨by unfold rnO; rw [d0]; rfl, rfl⟩⟩
theorem nmO_iff {t : Nat → Nat} {p : Nat} {lo hi : Int32} : nmO t p lo hi = true ↔ dg (t p) = true ∧ lo ≤ nI (nmV t p) ∧ nI (nmV t p) ≤ hi := by
  unfold nmO
  rw [Bool.and_eq_true, decide_eq_true_eq, nmE_dg, inB_iff]
theorem zF_2 {w : Nat} (h : w < 3) : zF 2 w = mostI (nI w) := by
  match w, h with
  | 0, _ => decide
  | 1, _ => decide
  | 2, _ => decide
theorem zF_0 {w : Nat} (h : w < 5) : zF 0 w = lowI (nI w) := by
  match w, h with
  | 0, _ => decide
  | 1, _ => decide
  | 2, _ => decide
  | 3, _ => decide
  | 4, _ => decide
theorem zF_1 {w : Nat} (h : w < 5) : zF 1 w = highI (nI w) := by
  match w, h with
  | 0, _ => decide
  | 1, _ => decide
  | 2, _ => decide
  | 3, _ => decide
  | 4, _ => decide
theorem ok_t {t : Nat → Nat} {p e : Nat} {lo hi : Int32} (h1 : rnO t p e = true) (h2 : lo ≤ nI (nmV t p)) (h3 : nI (nmV t p) ≤ hi) : (nmO t p lo hi && decide (t (nmE t p) = e)) = true := by
  unfold rnO at h1
  rw [Bool.and_eq_true] at h1 ⊢
  exact ⟨nmO_iff.mpr ⟨h1.1, h2, h3⟩, h1.2⟩
theorem ok_f {t : Nat → Nat} {p e : Nat} {lo hi x : Int32} (h : (rnO t p e = true ∧ x = nI (nmV t p)) ∨ (rnO t p e = false ∧ x = -1)) (hx : x < lo ∨ hi < x ∨ rnO t p e = false) : (nmO t p lo hi && decide (t (nmE t p) = e)) = false := by
  rw [← Bool.not_eq_true]
  intro hc
  rw [Bool.and_eq_true, nmO_iff] at hc
  obtain ⟨⟨a1, a2, a3⟩, a4⟩ := hc
  have h1 : rnO t p e = true := by unfold rnO; rw [a1]; exact a4
  rcases h with ⟨-, rfl⟩ | ⟨b1, -⟩
  · rcases hx with hx | hx | hx
    · exact i_nle hx a2
    · exact i_nle hx a3
    · rw [h1] at hx; cases hx
  · rw [h1] at b1; cases b1
theorem dj_w {a b c d e : Prop} (h : (a ∧ b ∧ c) ∨ (d ∧ e)) : (a ∧ b) ∨ (d ∧ e) := h.elim (fun x => Or.inl ⟨x.1, x.2.1⟩) Or.inr
set_option maxRecDepth 20000 in
/-- readSpan -/
theorem cb_readSpan {l : Launch} {D : va_G} {cy : Nat → ClassId} {z : Nat → Nat} {q : Nat → Nat} (hI : wI 49 q) {tl dsp dwi dat bsp bwi pnx phd vkn : Nat} {dff lbl lsh lpk : Int32} {lett : Nat → Nat} {num lim now : Nat → Int32} {prw plr hgr : Nat → Nat → Int32} {bk bd wio wys trl : Nat → Int32} {clr : Nat → Int64} {tld tie fst las saw : Nat → Int32} (hp : dat ≤ 900) (hl : tl ≤ 200) (hb : ∀ j, lett j ≤ 1000) : Ct l yX1_readSpan cX1_readSpan 3 (some .boolean) 2 45 D cy z 49 q [.ref (q 2), .ref (q 1)] (bwC cy q tl dsp dwi dat bsp bwi pnx phd vkn dff lbl lsh lpk lett num lim now prw plr hgr bk bd wio wys trl clr tld tie fst las saw) (PX (fun x g => ((nmO (lt0 tl lett) dat (nI 8) (nI 40) && decide ((lt0 tl lett) (nmE (lt0 tl lett) dat) = 59)) = true ∧ x = bi true ∧ g = (bwC cy q tl (nmV (lt0 tl lett) dat) dwi (nmE (lt0 tl lett) dat + 1) bsp bwi pnx phd vkn dff lbl lsh lpk lett num lim now prw plr hgr bk bd wio wys trl clr tld tie fst las saw)) ∨ ((nmO (lt0 tl lett) dat (nI 8) (nI 40) && decide ((lt0 tl lett) (nmE (lt0 tl lett) dat) = 59)) = false ∧ x = bi false ∧ ∃ d, g = (bwC cy q tl dsp dwi d bsp bwi pnx phd vkn dff lbl lsh lpk lett num lim now prw plr hgr bk bd wio wys trl clr tld tie fst las saw)))) := by
  refine Ct.of (own := RX1) (by decide) rfl hI (Nat.le_of_ble_eq_true rfl) ?_
  intro p e s m args below meth c C hr
  refine aw_lv (lv' := [(0, .ref (q 2)), (1, .ref (q 1))]) (fun x hx => hx) ?_
  refine aw_aload_n C dX1_readSpan_0 (i := 0) rfl rfl ?_
  refine aw_aload_n C dX1_readSpan_1 (i := 1) rfl rfl ?_
  refine aw_bipush C dX1_readSpan_2 kb_59 ?_
  refine aw_V2x (k := 2) C dX1_readSpan_4 cv_X1_63 (by decide) rfl rfl rfl (cb_readNumber hI (by decide) (by omega) hl hb) ⟨Nat.le_of_ble_eq_true rfl, Nat.le_of_ble_eq_true rfl⟩ (Nat.le_of_ble_eq_true rfl) (fun x g hp9 => ?_)
  obtain ⟨d9, rfl, hp9⟩ := hp9
  refine aw_istore_n (lv' := [(0, _), (1, _), (2, _)]) C dX1_readSpan_7 (i := 2) rfl (Nat.le_of_ble_eq_true rfl) rfl ?_
  refine aw_iload_n C dX1_readSpan_8 (i := 2) rfl rfl ?_
  refine aw_bipush C dX1_readSpan_9 kb_8 ?_
  refine aw_icmp_lt (tgt := 20) C dX1_readSpan_11 (by decide) (fun h11 => ?_) (fun h11 => ?_)
  · refine aw_iconst C dX1_readSpan_20 ki_0 ?_
    refine aw_zret C hr dX1_readSpan_21 (by decide) ?_
    exact ⟨_, rfl, Or.inr ⟨ok_f (dj_w hp9) (Or.inl h11), rfl, _, rfl⟩⟩
  · refine aw_iload_n C dX1_readSpan_14 (i := 2) rfl rfl ?_
    refine aw_bipush C dX1_readSpan_15 kb_40 ?_
    refine aw_icmp_le (tgt := 22) C dX1_readSpan_17 (by decide) (fun h17 => ?_) (fun h17 => ?_)
    · obtain ⟨a1, rfl, rfl⟩ : rnO (lt0 tl lett) dat 59 = true ∧ x = nI (nmV (lt0 tl lett) dat) ∧ d9 = nmE (lt0 tl lett) dat + 1 := by
        rcases hp9 with h9 | ⟨-, rfl⟩
        · exact h9
        · exact absurd (by decide) h11
      refine aw_aload_n C dX1_readSpan_22 (i := 0) rfl rfl ?_
      refine aw_iload_n C dX1_readSpan_23 (i := 2) rfl rfl ?_
      refine aw_put (k := 2) C dX1_readSpan_24 fp_X1_18 (by decide) rfl rfl rfl (Nat.le_of_ble_eq_true rfl) bw_p_dsp ?_
      refine aw_iconst C dX1_readSpan_27 ki_1 ?_
      refine aw_zret C hr dX1_readSpan_28 (by decide) ?_
      exact ⟨_, rfl, Or.inl ⟨ok_t a1 (i_le h11) h17, rfl, rfl⟩⟩
    · refine aw_iconst C dX1_readSpan_20 ki_0 ?_
      refine aw_zret C hr dX1_readSpan_21 (by decide) ?_
      exact ⟨_, rfl, Or.inr ⟨ok_f (dj_w hp9) (Or.inr (Or.inl (i_lt h17))), rfl, _, rfl⟩⟩
set_option maxRecDepth 20000 in
/-- readLimit -/
theorem cb_readLimit {l : Launch} {D : va_G} {cy : Nat → ClassId} {z : Nat → Nat} {q : Nat → Nat} (hI : wI 49 q) {tl dsp dwi dat bsp bwi pnx phd vkn : Nat} {dff lbl lsh lpk : Int32} {lett : Nat → Nat} {num lim now : Nat → Int32} {prw plr hgr : Nat → Nat → Int32} {bk bd wio wys trl : Nat → Int32} {clr : Nat → Int64} {tld tie fst las saw : Nat → Int32} {w0 : Nat} (hw0 : w0 < 3) (hp : dat ≤ 900) (hl : tl ≤ 200) (hb : ∀ j, lett j ≤ 1000) : Ct l yX1_readLimit cX1_readLimit 4 (some .boolean) 2 45 D cy z 49 q [.ref (q 2), .ref (q 1), .int (nI w0)] (bwC cy q tl dsp dwi dat bsp bwi pnx phd vkn dff lbl lsh lpk lett num lim now prw plr hgr bk bd wio wys trl clr tld tie fst las saw) (PX (fun x g => ((nmO (lt0 tl lett) dat (nI 1) (mostI (nI w0)) && decide ((lt0 tl lett) (nmE (lt0 tl lett) dat) = 59)) = true ∧ x = bi true ∧ g = (bwC cy q tl dsp dwi (nmE (lt0 tl lett) dat + 1) bsp bwi pnx phd vkn dff lbl lsh lpk lett num (upd lim w0 (nI (nmV (lt0 tl lett) dat))) now prw plr hgr bk bd wio wys trl clr tld tie fst las saw)) ∨ ((nmO (lt0 tl lett) dat (nI 1) (mostI (nI w0)) && decide ((lt0 tl lett) (nmE (lt0 tl lett) dat) = 59)) = false ∧ x = bi false ∧ ∃ d, g = (bwC cy q tl dsp dwi d bsp bwi pnx phd vkn dff lbl lsh lpk lett num lim now prw plr hgr bk bd wio wys trl clr tld tie fst las saw)))) := by
  refine Ct.of (own := RX1) (by decide) rfl hI (Nat.le_of_ble_eq_true rfl) ?_
  intro p e s m args below meth c C hr
  refine aw_lv (lv' := [(0, .ref (q 2)), (1, .ref (q 1)), (2, .int (nI w0))]) (fun x hx => hx) ?_
  refine aw_aload_n C dX1_readLimit_0 (i := 0) rfl rfl ?_
  refine aw_aload_n C dX1_readLimit_1 (i := 1) rfl rfl ?_
  refine aw_bipush C dX1_readLimit_2 kb_59 ?_
  refine aw_V2x (k := 2) C dX1_readLimit_4 cv_X1_63 (by decide) rfl rfl rfl (cb_readNumber hI (by decide) (by omega) hl hb) ⟨Nat.le_of_ble_eq_true rfl, Nat.le_of_ble_eq_true rfl⟩ (Nat.le_of_ble_eq_true rfl) (fun x g hp9 => ?_)
  obtain ⟨d9, rfl, hp9⟩ := hp9
  refine aw_istore_n (lv' := [(0, _), (1, _), (2, _), (3, _)]) C dX1_readLimit_7 (i := 3) rfl (Nat.le_of_ble_eq_true rfl) rfl ?_
  refine aw_iload_n C dX1_readLimit_8 (i := 3) rfl rfl ?_
  refine aw_iconst C dX1_readLimit_9 ki_1 ?_
  refine aw_icmp_lt (tgt := 22) C dX1_readLimit_10 (by decide) (fun h10 => ?_) (fun h10 => ?_)
  · refine aw_iconst C dX1_readLimit_22 ki_0 ?_
    refine aw_zret C hr dX1_readLimit_23 (by decide) ?_
    exact ⟨_, rfl, Or.inr ⟨ok_f (dj_w hp9) (Or.inl h10), rfl, _, rfl⟩⟩
  · refine aw_iload_n C dX1_readLimit_13 (i := 3) rfl rfl ?_
    refine aw_gets (j := 2) (host := "BondedWires") C dX1_readLimit_14 (by decide) (Or.inr (nw_at 355 (by decide +kernel) rfl)) ?_
    refine aw_iload_n C dX1_readLimit_17 (i := 2) rfl rfl ?_
    refine aw_ziald (j := 2) C dX1_readLimit_18 (by decide) (rfl) (hw0) (by omega) ?_
    refine aw_icmp_le (tgt := 24) C dX1_readLimit_19 (by decide) (fun h19 => ?_) (fun h19 => ?_)
    · obtain ⟨a1, rfl, rfl⟩ : rnO (lt0 tl lett) dat 59 = true ∧ x = nI (nmV (lt0 tl lett) dat) ∧ d9 = nmE (lt0 tl lett) dat + 1 := by
        rcases hp9 with h9 | ⟨-, rfl⟩
        · exact h9
        · exact absurd (by decide) h10
      refine aw_aload_n C dX1_readLimit_24 (i := 0) rfl rfl ?_
      refine aw_get (k := 2) C dX1_readLimit_25 fl_X1_15 (by decide) rfl rfl ?_
      refine aw_iload_n C dX1_readLimit_28 (i := 2) rfl rfl ?_
      refine aw_iload_n C dX1_readLimit_29 (i := 3) rfl rfl ?_
      refine aw_iast (k := 11) C dX1_readLimit_30 (by decide) (rfl) (rfl) (by omega) (by decide) (bw_a_lim) ?_
      refine aw_iconst C dX1_readLimit_31 ki_1 ?_
      refine aw_zret C hr dX1_readLimit_32 (by decide) ?_
      exact ⟨_, rfl, Or.inl ⟨ok_t a1 (i_le h10) (by rw [← zF_2 hw0]; exact h19), rfl, rfl⟩⟩
    · refine aw_iconst C dX1_readLimit_22 ki_0 ?_
      refine aw_zret C hr dX1_readLimit_23 (by decide) ?_
      exact ⟨_, rfl, Or.inr ⟨ok_f (dj_w hp9) (Or.inr (Or.inl (by rw [← zF_2 hw0]; exact i_lt h19))), rfl, _, rfl⟩⟩
def bwK (t : Nat → Nat) (e k : Nat) : Bool := nmO t (wrE t e k + 1) (lowI (nI k)) (highI (nI k)) && decide (t (wrE t e (k + 1)) = if k = 4 then 59 else 44)
theorem bwK_all (t : Nat → Nat) (e : Nat) : allB (bwK t e) 5 = (allB (wrK t e) 5 && decide (t (wrE t e 5) = 59)) := by
  have e0 : ∀ k, wrE t e (k + 1) = nmE t (wrE t e k + 1) := fun _ => rfl
  rw [Bool.eq_iff_iff]
  simp only [allB, bwK, wrK, Bool.and_eq_true, Bool.or_eq_true, decide_eq_true_eq, Nat.zero_add]
  constructor
  · intro h
    simp_all
  · intro h
    simp_all
theorem okw_f {t : Nat → Nat} {n e k : Nat} (hk : k < 5) (h : bwK t e k = false) : (wrO t n e && decide (t (wrE t e 5) = 59)) = false := by
  have h1 : allB (bwK t e) 5 = false := allB_f (k := k + 1) (by unfold allB; rw [h]; exact Bool.and_false _) hk
  rw [bwK_all] at h1
  unfold wrO
  rw [Bool.and_assoc, h1]
  exact Bool.and_false _
theorem okw_t {t : Nat → Nat} {n e : Nat} (hn : n < 8) (h : ∀ j, j < 5 → bwK t e j = true) : (wrO t n e && decide (t (wrE t e 5) = 59)) = true := by
  have h1 : allB (bwK t e) 5 = true := allB_t.mpr h
  rw [bwK_all] at h1
  unfold wrO
  rw [Bool.and_assoc, h1, Bool.and_true]
  simp
  omega
theorem i_ltl {k : Nat} (h : k < 5) : (-1 : Int32) < lowI (nI k) := by
  match k, h with
  | 0, _ => decide
  | 1, _ => decide
  | 2, _ => decide
  | 3, _ => decide
  | 4, _ => decide
set_option maxRecDepth 20000 in
/-- readWire, its loop -/
theorem cb_readWire_l {l : Launch} {D : va_G} {cy : Nat → ClassId} {z : Nat → Nat} {q : Nat → Nat} {p : Program} {e : Env} {s : State} {m : MethodId} {args : Array Value} {below : List Frame} {meth : Method} {c : Code} (hI : wI 49 q) (C : Cx p s m args meth c cX1_readWire 4 RX1 D cy z 49 q) (hr : meth.sig.returnType = (some .boolean)) {tl dsp dwi bsp bwi pnx phd vkn : Nat} {dff lbl lsh lpk : Int32} {lett : Nat → Nat} {num lim now : Nat → Int32} {prw plr hgr : Nat → Nat → Int32} {bk bd wio wys trl : Nat → Int32} {clr : Nat → Int64} {tld tie fst las saw : Nat → Int32} {e0 : Nat} (hp : e0 ≤ 300) (hl : tl ≤ 200) (hb : ∀ j, lett j ≤ 1000) (hd8 : dwi < 8) : ∀ (d : Nat) (k : Nat), 5 - k < d → (k ≤ 5) → (∀ j, j < k → bwK (lt0 tl lett) e0 j = true) → AW p l e { frames := 2, cells := 0, slots := 0, locals := 45 } s m args below meth c D 49 q 4 (MQ below (Qg D 49 q (PX (fun x g => ((wrO (lt0 tl lett) dwi e0 && decide ((lt0 tl lett) (wrE (lt0 tl lett) e0 5) = 59)) = true ∧ x = bi true ∧ g = (bwC cy q tl dsp (dwi + 1) (wrE (lt0 tl lett) e0 5 + 1) bsp bwi pnx phd vkn dff lbl lsh lpk lett (cpO (wrV (lt0 tl lett) e0) num (dwi * 5) 5) lim now prw plr hgr bk bd wio wys trl clr tld tie fst las saw)) ∨ ((wrO (lt0 tl lett) dwi e0 && decide ((lt0 tl lett) (wrE (lt0 tl lett) e0 5) = 59)) = false ∧ x = bi false ∧ ∃ d n9, g = (bwC cy q tl dsp dwi d bsp bwi pnx phd vkn dff lbl lsh lpk lett n9 lim now prw plr hgr bk bd wio wys trl clr tld tie fst las saw)))) (wA 49 q s.heap.size)) args s 0 0 (wA 49 q s.heap.size)) (bwC cy q tl dsp dwi (wrE (lt0 tl lett) e0 k + 1) bsp bwi pnx phd vkn dff lbl lsh lpk lett (cpO (wrV (lt0 tl lett) e0) num (dwi * 5) k) lim now prw plr hgr bk bd wio wys trl clr tld tie fst las saw) [(0, .ref (q 2)), (1, .ref (q 1)), (2, .int (nI k))] 13 [] := by
  intro d
  induction d with
  | zero => intro k hd; exact absurd hd (Nat.not_lt_zero _)
  | succ d ih =>
    intro k hd iv0 iv1
    refine aw_iload_n C dX1_readWire_13 (i := 2) rfl rfl ?_
    refine aw_iconst C dX1_readWire_14 ki_5 ?_
    refine aw_icmp_ge_n (tgt := 76) C dX1_readWire_15 (by decide) (by omega) (by omega) (fun h15 => ?_) (fun h15 => ?_)
    · refine aw_aload_n C dX1_readWire_76 (i := 0) rfl rfl ?_
      refine aw_dup C dX1_readWire_77 rfl ?_
      refine aw_get (k := 2) C dX1_readWire_78 fl_X1_22 (by decide) rfl rfl ?_
      refine aw_iconst C dX1_readWire_81 ki_1 ?_
      refine aw_iadd_n C dX1_readWire_82 ?_
      refine aw_put (k := 2) C dX1_readWire_83 fp_X1_22 (by decide) rfl rfl rfl (Nat.le_of_ble_eq_true rfl) bw_p_dwi ?_
      refine aw_iconst C dX1_readWire_86 ki_1 ?_
      refine aw_zret C hr dX1_readWire_87 (by decide) ?_
      obtain rfl : k = 5 := by omega
      exact ⟨_, rfl, Or.inl ⟨okw_t hd8 iv1, rfl, rfl⟩⟩
    · have hwe := wrE_le (lt0 tl lett) e0 k
      refine aw_aload_n C dX1_readWire_18 (i := 0) rfl rfl ?_
      refine aw_aload_n C dX1_readWire_19 (i := 1) rfl rfl ?_
      refine aw_iload_n C dX1_readWire_20 (i := 2) rfl rfl ?_
      refine aw_iconst C dX1_readWire_21 ki_4 ?_
      refine aw_icmp_ne_n (tgt := 30) C dX1_readWire_22 (by decide) (by omega) (by omega) (fun h22 => ?_) (fun h22 => ?_)
      · refine aw_bipush C dX1_readWire_30 kb_44 ?_
        refine aw_V2x (k := 2) C dX1_readWire_32 cv_X1_63 (by decide) rfl rfl rfl (cb_readNumber hI (by decide) (by omega) hl hb) ⟨Nat.le_of_ble_eq_true rfl, Nat.le_of_ble_eq_true rfl⟩ (Nat.le_of_ble_eq_true rfl) (fun x g hp9 => ?_)
        obtain ⟨d9, rfl, hp9⟩ := hp9
        refine aw_istore_n (lv' := [(0, _), (1, _), (2, _), (3, _)]) C dX1_readWire_35 (i := 3) rfl (Nat.le_of_ble_eq_true rfl) rfl ?_
        refine aw_iload_n C dX1_readWire_36 (i := 3) rfl rfl ?_
        refine aw_gets (j := 0) (host := "BondedWires") C dX1_readWire_37 (by decide) (Or.inr (nw_at 361 (by decide +kernel) rfl)) ?_
        refine aw_iload_n C dX1_readWire_40 (i := 2) rfl rfl ?_
        refine aw_ziald (j := 0) C dX1_readWire_41 (by decide) (rfl) (by show k < 5; omega) (by omega) ?_
        refine aw_icmp_lt (tgt := 54) C dX1_readWire_42 (by decide) (fun h42 => ?_) (fun h42 => ?_)
        · refine aw_iconst C dX1_readWire_54 ki_0 ?_
          refine aw_zret C hr dX1_readWire_55 (by decide) ?_
          have hk9 : bwK (lt0 tl lett) e0 k = false := by
            unfold bwK
            rw [if_neg h22]
            exact ok_f (dj_w hp9) (Or.inl (by rw [← zF_0 (by omega)]; exact h42))
          exact ⟨_, rfl, Or.inr ⟨okw_f (by omega) hk9, rfl, _, _, rfl⟩⟩
        · refine aw_iload_n C dX1_readWire_45 (i := 3) rfl rfl ?_
          refine aw_gets (j := 1) (host := "BondedWires") C dX1_readWire_46 (by decide) (Or.inr (nw_at 363 (by decide +kernel) rfl)) ?_
          refine aw_iload_n C dX1_readWire_49 (i := 2) rfl rfl ?_
          refine aw_ziald (j := 1) C dX1_readWire_50 (by decide) (rfl) (by show k < 5; omega) (by omega) ?_
          refine aw_icmp_le (tgt := 56) C dX1_readWire_51 (by decide) (fun h51 => ?_) (fun h51 => ?_)
          · obtain ⟨a1, rfl, rfl⟩ : rnO (lt0 tl lett) (wrE (lt0 tl lett) e0 k + 1) 44 = true ∧ x = nI (nmV (lt0 tl lett) (wrE (lt0 tl lett) e0 k + 1)) ∧ d9 = nmE (lt0 tl lett) (wrE (lt0 tl lett) e0 k + 1) + 1 := by
              rcases hp9 with h9 | ⟨-, rfl⟩
              · exact h9
              · exact absurd (by rw [zF_0 (by omega)]; exact i_ltl (by omega)) h42
            refine aw_aload_n C dX1_readWire_56 (i := 0) rfl rfl ?_
            refine aw_get (k := 2) C dX1_readWire_57 fl_X1_9 (by decide) rfl rfl ?_
            refine aw_aload_n C dX1_readWire_60 (i := 0) rfl rfl ?_
            refine aw_get (k := 2) C dX1_readWire_61 fl_X1_22 (by decide) rfl rfl ?_
            refine aw_iconst C dX1_readWire_64 ki_5 ?_
            refine aw_imul_n C dX1_readWire_65 ?_
            refine aw_iload_n C dX1_readWire_66 (i := 2) rfl rfl ?_
            refine aw_iadd_n C dX1_readWire_67 ?_
            refine aw_iload_n C dX1_readWire_68 (i := 3) rfl rfl ?_
            refine aw_iast (k := 10) C dX1_readWire_69 (by decide) (rfl) (rfl) (by omega) (by decide) (bw_a_num) ?_
            refine aw_iinc_n (lv' := [(0, _), (1, _), (2, _), (3, _)]) C dX1_readWire_70 rfl ki_1 (Nat.le_of_ble_eq_true rfl) rfl ?_
            refine aw_goto (tgt := 13) C dX1_readWire_73 (by decide) ?_
            refine aw_take 3 (lv' := [(0, _), (1, _), (2, _)]) rfl ?_
            have hk9 : bwK (lt0 tl lett) e0 k = true := by
              unfold bwK
              rw [if_neg h22]
              exact ok_t a1 (by rw [← zF_0 (by omega)]; exact i_le h42) (by rw [← zF_1 (by omega)]; exact h51)
            rw [show nI (nmV (lt0 tl lett) (wrE (lt0 tl lett) e0 k + 1)) = wrV (lt0 tl lett) e0 k from rfl, cpO_s]
            exact ih (k + 1) (by omega) (by omega) (fun j hj => by rcases Nat.lt_or_ge j k with g | g; exact iv1 j g; rw [show j = k by omega]; exact hk9)
          · refine aw_iconst C dX1_readWire_54 ki_0 ?_
            refine aw_zret C hr dX1_readWire_55 (by decide) ?_
            have hk9 : bwK (lt0 tl lett) e0 k = false := by
              unfold bwK
              rw [if_neg h22]
              exact ok_f (dj_w hp9) (Or.inr (Or.inl (by rw [← zF_1 (by omega)]; exact i_lt h51)))
            exact ⟨_, rfl, Or.inr ⟨okw_f (by omega) hk9, rfl, _, _, rfl⟩⟩
      · refine aw_bipush C dX1_readWire_25 kb_59 ?_
        refine aw_goto (tgt := 32) C dX1_readWire_27 (by decide) ?_
        refine aw_V2x (k := 2) C dX1_readWire_32 cv_X1_63 (by decide) rfl rfl rfl (cb_readNumber hI (by decide) (by omega) hl hb) ⟨Nat.le_of_ble_eq_true rfl, Nat.le_of_ble_eq_true rfl⟩ (Nat.le_of_ble_eq_true rfl) (fun x g hp9 => ?_)
        obtain ⟨d9, rfl, hp9⟩ := hp9
        refine aw_istore_n (lv' := [(0, _), (1, _), (2, _), (3, _)]) C dX1_readWire_35 (i := 3) rfl (Nat.le_of_ble_eq_true rfl) rfl ?_
        refine aw_iload_n C dX1_readWire_36 (i := 3) rfl rfl ?_
        refine aw_gets (j := 0) (host := "BondedWires") C dX1_readWire_37 (by decide) (Or.inr (nw_at 361 (by decide +kernel) rfl)) ?_
        refine aw_iload_n C dX1_readWire_40 (i := 2) rfl rfl ?_
        refine aw_ziald (j := 0) C dX1_readWire_41 (by decide) (rfl) (by show k < 5; omega) (by omega) ?_
        refine aw_icmp_lt (tgt := 54) C dX1_readWire_42 (by decide) (fun h42 => ?_) (fun h42 => ?_)
        · refine aw_iconst C dX1_readWire_54 ki_0 ?_
          refine aw_zret C hr dX1_readWire_55 (by decide) ?_
          have hk9 : bwK (lt0 tl lett) e0 k = false := by
            unfold bwK
            rw [if_pos h22]
            exact ok_f (dj_w hp9) (Or.inl (by rw [← zF_0 (by omega)]; exact h42))
          exact ⟨_, rfl, Or.inr ⟨okw_f (by omega) hk9, rfl, _, _, rfl⟩⟩
        · refine aw_iload_n C dX1_readWire_45 (i := 3) rfl rfl ?_
          refine aw_gets (j := 1) (host := "BondedWires") C dX1_readWire_46 (by decide) (Or.inr (nw_at 363 (by decide +kernel) rfl)) ?_
          refine aw_iload_n C dX1_readWire_49 (i := 2) rfl rfl ?_
          refine aw_ziald (j := 1) C dX1_readWire_50 (by decide) (rfl) (by show k < 5; omega) (by omega) ?_
          refine aw_icmp_le (tgt := 56) C dX1_readWire_51 (by decide) (fun h51 => ?_) (fun h51 => ?_)
          · obtain ⟨a1, rfl, rfl⟩ : rnO (lt0 tl lett) (wrE (lt0 tl lett) e0 k + 1) 59 = true ∧ x = nI (nmV (lt0 tl lett) (wrE (lt0 tl lett) e0 k + 1)) ∧ d9 = nmE (lt0 tl lett) (wrE (lt0 tl lett) e0 k + 1) + 1 := by
              rcases hp9 with h9 | ⟨-, rfl⟩
              · exact h9
              · exact absurd (by rw [zF_0 (by omega)]; exact i_ltl (by omega)) h42
            refine aw_aload_n C dX1_readWire_56 (i := 0) rfl rfl ?_
            refine aw_get (k := 2) C dX1_readWire_57 fl_X1_9 (by decide) rfl rfl ?_
            refine aw_aload_n C dX1_readWire_60 (i := 0) rfl rfl ?_
            refine aw_get (k := 2) C dX1_readWire_61 fl_X1_22 (by decide) rfl rfl ?_
            refine aw_iconst C dX1_readWire_64 ki_5 ?_
            refine aw_imul_n C dX1_readWire_65 ?_
            refine aw_iload_n C dX1_readWire_66 (i := 2) rfl rfl ?_
            refine aw_iadd_n C dX1_readWire_67 ?_
            refine aw_iload_n C dX1_readWire_68 (i := 3) rfl rfl ?_
            refine aw_iast (k := 10) C dX1_readWire_69 (by decide) (rfl) (rfl) (by omega) (by decide) (bw_a_num) ?_
            refine aw_iinc_n (lv' := [(0, _), (1, _), (2, _), (3, _)]) C dX1_readWire_70 rfl ki_1 (Nat.le_of_ble_eq_true rfl) rfl ?_
            refine aw_goto (tgt := 13) C dX1_readWire_73 (by decide) ?_
            refine aw_take 3 (lv' := [(0, _), (1, _), (2, _)]) rfl ?_
            have hk9 : bwK (lt0 tl lett) e0 k = true := by
              unfold bwK
              rw [if_pos h22]
              exact ok_t a1 (by rw [← zF_0 (by omega)]; exact i_le h42) (by rw [← zF_1 (by omega)]; exact h51)
            rw [show nI (nmV (lt0 tl lett) (wrE (lt0 tl lett) e0 k + 1)) = wrV (lt0 tl lett) e0 k from rfl, cpO_s]
            exact ih (k + 1) (by omega) (by omega) (fun j hj => by rcases Nat.lt_or_ge j k with g | g; exact iv1 j g; rw [show j = k by omega]; exact hk9)
          · refine aw_iconst C dX1_readWire_54 ki_0 ?_
            refine aw_zret C hr dX1_readWire_55 (by decide) ?_
            have hk9 : bwK (lt0 tl lett) e0 k = false := by
              unfold bwK
              rw [if_pos h22]
              exact ok_f (dj_w hp9) (Or.inr (Or.inl (by rw [← zF_1 (by omega)]; exact i_lt h51)))
            exact ⟨_, rfl, Or.inr ⟨okw_f (by omega) hk9, rfl, _, _, rfl⟩⟩
set_option maxRecDepth 20000 in
/-- readWire -/
theorem cb_readWire {l : Launch} {D : va_G} {cy : Nat → ClassId} {z : Nat → Nat} {q : Nat → Nat} (hI : wI 49 q) {tl dsp dwi bsp bwi pnx phd vkn : Nat} {dff lbl lsh lpk : Int32} {lett : Nat → Nat} {num lim now : Nat → Int32} {prw plr hgr : Nat → Nat → Int32} {bk bd wio wys trl : Nat → Int32} {clr : Nat → Int64} {tld tie fst las saw : Nat → Int32} {e0 : Nat} (hp : e0 ≤ 300) (hl : tl ≤ 200) (hb : ∀ j, lett j ≤ 1000) (hdw : dwi ≤ 8) : Ct l yX1_readWire cX1_readWire 4 (some .boolean) 2 45 D cy z 49 q [.ref (q 2), .ref (q 1)] (bwC cy q tl dsp dwi (e0 + 1) bsp bwi pnx phd vkn dff lbl lsh lpk lett num lim now prw plr hgr bk bd wio wys trl clr tld tie fst las saw) (PX (fun x g => ((wrO (lt0 tl lett) dwi e0 && decide ((lt0 tl lett) (wrE (lt0 tl lett) e0 5) = 59)) = true ∧ x = bi true ∧ g = (bwC cy q tl dsp (dwi + 1) (wrE (lt0 tl lett) e0 5 + 1) bsp bwi pnx phd vkn dff lbl lsh lpk lett (cpO (wrV (lt0 tl lett) e0) num (dwi * 5) 5) lim now prw plr hgr bk bd wio wys trl clr tld tie fst las saw)) ∨ ((wrO (lt0 tl lett) dwi e0 && decide ((lt0 tl lett) (wrE (lt0 tl lett) e0 5) = 59)) = false ∧ x = bi false ∧ ∃ d n9, g = (bwC cy q tl dsp dwi d bsp bwi pnx phd vkn dff lbl lsh lpk lett n9 lim now prw plr hgr bk bd wio wys trl clr tld tie fst las saw)))) := by
  refine Ct.of (own := RX1) (by decide) rfl hI (Nat.le_of_ble_eq_true rfl) ?_
  intro p e s m args below meth c C hr
  refine aw_lv (lv' := [(0, .ref (q 2)), (1, .ref (q 1))]) (fun x hx => hx) ?_
  refine aw_aload_n C dX1_readWire_0 (i := 0) rfl rfl ?_
  refine aw_get (k := 2) C dX1_readWire_1 fl_X1_22 (by decide) rfl rfl ?_
  refine aw_bipush C dX1_readWire_4 kb_8 ?_
  refine aw_icmp_lt_n (tgt := 11) C dX1_readWire_6 (by decide) (by omega) (by omega) (fun h6 => ?_) (fun h6 => ?_)
  · refine aw_iconst C dX1_readWire_11 ki_0 ?_
    refine aw_istore_n (lv' := [(0, _), (1, _), (2, _)]) C dX1_readWire_12 (i := 2) rfl (Nat.le_of_ble_eq_true rfl) rfl ?_
    refine aw_fq (f' := (bwC cy q tl dsp dwi (wrE (lt0 tl lett) e0 0 + 1) bsp bwi pnx phd vkn dff lbl lsh lpk lett (cpO (wrV (lt0 tl lett) e0) num (dwi * 5) 0) lim now prw plr hgr bk bd wio wys trl clr tld tie fst las saw)) (by rw [cpO_0]; rfl) ?_
    exact cb_readWire_l hI C hr hp hl hb h6 6 0 (by omega) (by omega) (fun j hj => absurd hj (Nat.not_lt_zero j))
  · refine aw_iconst C dX1_readWire_9 ki_0 ?_
    refine aw_zret C hr dX1_readWire_10 (by decide) ?_
    exact ⟨_, rfl, Or.inr ⟨by unfold wrO; simp; omega, rfl, _, _, rfl⟩⟩
/-- what the draft has told of wires and limits is what is asked -/
def rlN (num lim : Nat → Int32) (wn : Nat) (R : Nat → Int32) : Prop := (∀ j, j < 5 * wn → num j = R j) ∧ ∀ w, w < 3 → lim w = R (40 + w)
set_option maxRecDepth 20000 in
/-- readItem -/
theorem cb_readItem {l : Launch} {D : va_G} {cy : Nat → ClassId} {z : Nat → Nat} {q : Nat → Nat} (hI : wI 49 q) {tl dsp dwi bsp bwi pnx phd vkn : Nat} {dff lbl lsh lpk : Int32} {lett : Nat → Nat} {num lim now : Nat → Int32} {prw plr hgr : Nat → Nat → Int32} {bk bd wio wys trl : Nat → Int32} {clr : Nat → Int64} {tld tie fst las saw : Nat → Int32} {i0 : Nat} {R0 : Nat → Int32} (hi0 : i0 ≤ 300) (hdw : dwi ≤ 8) (hds : dsp ≤ 99) (hz : dsp = 0 ↔ i0 = 0) (hR : rlN num lim dwi R0) (hl : tl ≤ 200) (hb : ∀ j, lett j ≤ 1000) : Ct l yX1_readItem cX1_readItem 3 (some .boolean) 3 68 D cy z 49 q [.ref (q 2), .ref (q 1)] (bwC cy q tl dsp dwi i0 bsp bwi pnx phd vkn dff lbl lsh lpk lett num lim now prw plr hgr bk bd wio wys trl clr tld tie fst las saw) (PX (fun x g => ((itO (lt0 tl lett) dwi i0 && decide ((lt0 tl lett) (itE (lt0 tl lett) i0) = 59)) = true ∧ x = bi true ∧ ∃ n9 l9, g = (bwC cy q tl (itS (lt0 tl lett) dsp i0) (itW (lt0 tl lett) dwi i0) (itE (lt0 tl lett) i0 + 1) bsp bwi pnx phd vkn dff lbl lsh lpk lett n9 l9 now prw plr hgr bk bd wio wys trl clr tld tie fst las saw) ∧ rlN n9 l9 (itW (lt0 tl lett) dwi i0) (itR (lt0 tl lett) dwi R0 i0)) ∨ ((itO (lt0 tl lett) dwi i0 && decide ((lt0 tl lett) (itE (lt0 tl lett) i0) = 59)) = false ∧ x = bi false ∧ ∃ s9 w9 d n9 l9, g = (bwC cy q tl s9 w9 d bsp bwi pnx phd vkn dff lbl lsh lpk lett n9 l9 now prw plr hgr bk bd wio wys trl clr tld tie fst las saw)))) := by
  refine Ct.of (own := RX1) (by decide) rfl hI (Nat.le_of_ble_eq_true rfl) ?_
  intro p e s m args below meth c C hr
  refine aw_lv (lv' := [(0, .ref (q 2)), (1, .ref (q 1))]) (fun x hx => hx) ?_
  refine aw_aload_n C dX1_readItem_0 (i := 1) rfl rfl ?_
  refine aw_aload_n C dX1_readItem_1 (i := 0) rfl rfl ?_
  refine aw_get (k := 2) C dX1_readItem_2 fl_X1_25 (by decide) rfl rfl ?_
  refine aw_V1i (k := 1) C dX1_readItem_5 cv_X1_49 (by decide) rfl rfl rfl (cb_letterAt hI (by omega) hl hb) ⟨Nat.le_of_ble_eq_true rfl, Nat.le_of_ble_eq_true rfl⟩ (Nat.le_of_ble_eq_true rfl) ?_
  have hlb := lt0_b (len := tl) (p := i0) hb
  refine aw_istore_n (lv' := [(0, _), (1, _), (2, _)]) C dX1_readItem_8 (i := 2) rfl (Nat.le_of_ble_eq_true rfl) rfl ?_
  refine aw_aload_n C dX1_readItem_9 (i := 0) rfl rfl ?_
  refine aw_dup C dX1_readItem_10 rfl ?_
  refine aw_get (k := 2) C dX1_readItem_11 fl_X1_25 (by decide) rfl rfl ?_
  refine aw_iconst C dX1_readItem_14 ki_1 ?_
  refine aw_iadd_n C dX1_readItem_15 ?_
  refine aw_put (k := 2) C dX1_readItem_16 fp_X1_25 (by decide) rfl rfl rfl (Nat.le_of_ble_eq_true rfl) bw_p_dat ?_
  refine aw_iload_n C dX1_readItem_19 (i := 2) rfl rfl ?_
  refine aw_bipush C dX1_readItem_20 kb_115 ?_
  refine aw_icmp_ne_n (tgt := 29) C dX1_readItem_22 (by decide) (by omega) (by omega) (fun h22 => ?_) (fun h22 => ?_)
  · refine aw_iconst C dX1_readItem_29 ki_0 ?_
    refine aw_aload_n C dX1_readItem_30 (i := 0) rfl rfl ?_
    refine aw_get (k := 2) C dX1_readItem_31 fl_X1_18 (by decide) rfl rfl ?_
    refine aw_if_ne_n (tgt := 41) C dX1_readItem_34 (by decide) (by omega) (fun h34 => ?_) (fun h34 => ?_)
    · refine aw_iconst C dX1_readItem_41 ki_0 ?_
      refine aw_icmp_eq_n (tgt := 47) C dX1_readItem_42 (by decide) (by omega) (by omega) (fun h42 => ?_) (fun h42 => absurd rfl h42)
      refine aw_iload_n C dX1_readItem_47 (i := 2) rfl rfl ?_
      by_cases hsw103 : (lt0 tl lett i0) = 103
      · refine aw_lsw (tgt := 106) (off := 58) C dX1_readItem_48 (by decide) (by rw [hsw103]; rfl) (by decide) ?_
        refine aw_aload_n C dX1_readItem_106 (i := 0) rfl rfl ?_
        refine aw_aload_n C dX1_readItem_107 (i := 1) rfl rfl ?_
        refine aw_iconst C dX1_readItem_108 ki_0 ?_
        refine aw_V2x (k := 2) C dX1_readItem_109 cv_X1_56 (by decide) rfl rfl rfl (cb_readLimit hI (by decide) (by omega) hl hb) ⟨Nat.le_of_ble_eq_true rfl, Nat.le_of_ble_eq_true rfl⟩ (Nat.le_of_ble_eq_true rfl) (fun x g hp9 => ?_)
        refine aw_zret C hr dX1_readItem_112 (by rcases hp9 with ⟨-, rfl, -⟩ | ⟨-, rfl, -⟩ <;> exact bi_nar) ?_
        have g9 : (decide (i0 = 0) = decide ((lt0 tl lett i0) = 115)) := by rw [decide_eq_false (fun e9 => absurd (hz.mpr e9) (by omega)), decide_eq_false h22]
        have w9 : ¬ (lt0 tl lett i0) = 119 := by rw [hsw103]; decide
        have l9 : lmN (lt0 tl lett i0) = 0 := by unfold lmN; rw [if_pos hsw103]
        have e9 : (itO (lt0 tl lett) dwi i0 && decide ((lt0 tl lett) (itE (lt0 tl lett) i0) = 59)) = (nmO (lt0 tl lett) (i0 + 1) (nI 1) (mostI (nI 0)) && decide ((lt0 tl lett) (nmE (lt0 tl lett) (i0 + 1)) = 59)) := by unfold itO itE; rw [if_pos g9, if_neg h22, if_neg w9, if_neg (by rw [l9]; decide), if_neg w9, l9]
        rcases hp9 with ⟨a1, rfl, rfl⟩ | ⟨a1, rfl, d, rfl⟩
        · refine ⟨_, rfl, Or.inl ⟨e9.trans a1, rfl, num, upd lim 0 (nI (nmV (lt0 tl lett) (i0 + 1))), ?_, ?_⟩⟩
          · unfold itS itW itE
            rw [if_neg h22, if_neg w9, if_neg w9]
          · unfold itW itR
            rw [if_neg w9, if_neg h22, if_neg w9, l9]
            refine ⟨fun j hj => ?_, fun w hw => ?_⟩
            · rw [upd_un (by omega)]
              exact hR.1 j hj
            · by_cases hk : w = 0
              · rw [hk, upd_us, upd_us]
              · rw [upd_un hk, upd_un (by omega)]
                exact hR.2 w hw
        · exact ⟨_, rfl, Or.inr ⟨e9.trans a1, rfl, _, _, _, _, _, rfl⟩⟩
      by_cases hsw104 : (lt0 tl lett i0) = 104
      · refine aw_lsw (tgt := 113) (off := 65) C dX1_readItem_48 (by decide) (by rw [hsw104]; rfl) (by decide) ?_
        refine aw_aload_n C dX1_readItem_113 (i := 0) rfl rfl ?_
        refine aw_aload_n C dX1_readItem_114 (i := 1) rfl rfl ?_
        refine aw_iconst C dX1_readItem_115 ki_1 ?_
        refine aw_V2x (k := 2) C dX1_readItem_116 cv_X1_56 (by decide) rfl rfl rfl (cb_readLimit hI (by decide) (by omega) hl hb) ⟨Nat.le_of_ble_eq_true rfl, Nat.le_of_ble_eq_true rfl⟩ (Nat.le_of_ble_eq_true rfl) (fun x g hp9 => ?_)
        refine aw_zret C hr dX1_readItem_119 (by rcases hp9 with ⟨-, rfl, -⟩ | ⟨-, rfl, -⟩ <;> exact bi_nar) ?_
        have g9 : (decide (i0 = 0) = decide ((lt0 tl lett i0) = 115)) := by rw [decide_eq_false (fun e9 => absurd (hz.mpr e9) (by omega)), decide_eq_false h22]
        have w9 : ¬ (lt0 tl lett i0) = 119 := by rw [hsw104]; decide
        have l9 : lmN (lt0 tl lett i0) = 1 := by unfold lmN; rw [if_neg (by omega), if_pos hsw104]
        have e9 : (itO (lt0 tl lett) dwi i0 && decide ((lt0 tl lett) (itE (lt0 tl lett) i0) = 59)) = (nmO (lt0 tl lett) (i0 + 1) (nI 1) (mostI (nI 1)) && decide ((lt0 tl lett) (nmE (lt0 tl lett) (i0 + 1)) = 59)) := by unfold itO itE; rw [if_pos g9, if_neg h22, if_neg w9, if_neg (by rw [l9]; decide), if_neg w9, l9]
        rcases hp9 with ⟨a1, rfl, rfl⟩ | ⟨a1, rfl, d, rfl⟩
        · refine ⟨_, rfl, Or.inl ⟨e9.trans a1, rfl, num, upd lim 1 (nI (nmV (lt0 tl lett) (i0 + 1))), ?_, ?_⟩⟩
          · unfold itS itW itE
            rw [if_neg h22, if_neg w9, if_neg w9]
          · unfold itW itR
            rw [if_neg w9, if_neg h22, if_neg w9, l9]
            refine ⟨fun j hj => ?_, fun w hw => ?_⟩
            · rw [upd_un (by omega)]
              exact hR.1 j hj
            · by_cases hk : w = 1
              · rw [hk, upd_us, upd_us]
              · rw [upd_un hk, upd_un (by omega)]
                exact hR.2 w hw
        · exact ⟨_, rfl, Or.inr ⟨e9.trans a1, rfl, _, _, _, _, _, rfl⟩⟩
      by_cases hsw115 : (lt0 tl lett i0) = 115
      · exact absurd hsw115 h22
      by_cases hsw116 : (lt0 tl lett i0) = 116
      · refine aw_lsw (tgt := 120) (off := 72) C dX1_readItem_48 (by decide) (by rw [hsw116]; rfl) (by decide) ?_
        refine aw_aload_n C dX1_readItem_120 (i := 0) rfl rfl ?_
        refine aw_aload_n C dX1_readItem_121 (i := 1) rfl rfl ?_
        refine aw_iconst C dX1_readItem_122 ki_2 ?_
        refine aw_V2x (k := 2) C dX1_readItem_123 cv_X1_56 (by decide) rfl rfl rfl (cb_readLimit hI (by decide) (by omega) hl hb) ⟨Nat.le_of_ble_eq_true rfl, Nat.le_of_ble_eq_true rfl⟩ (Nat.le_of_ble_eq_true rfl) (fun x g hp9 => ?_)
        refine aw_zret C hr dX1_readItem_126 (by rcases hp9 with ⟨-, rfl, -⟩ | ⟨-, rfl, -⟩ <;> exact bi_nar) ?_
        have g9 : (decide (i0 = 0) = decide ((lt0 tl lett i0) = 115)) := by rw [decide_eq_false (fun e9 => absurd (hz.mpr e9) (by omega)), decide_eq_false h22]
        have w9 : ¬ (lt0 tl lett i0) = 119 := by rw [hsw116]; decide
        have l9 : lmN (lt0 tl lett i0) = 2 := by unfold lmN; rw [if_neg (by omega), if_neg (by omega), if_pos hsw116]
        have e9 : (itO (lt0 tl lett) dwi i0 && decide ((lt0 tl lett) (itE (lt0 tl lett) i0) = 59)) = (nmO (lt0 tl lett) (i0 + 1) (nI 1) (mostI (nI 2)) && decide ((lt0 tl lett) (nmE (lt0 tl lett) (i0 + 1)) = 59)) := by unfold itO itE; rw [if_pos g9, if_neg h22, if_neg w9, if_neg (by rw [l9]; decide), if_neg w9, l9]
        rcases hp9 with ⟨a1, rfl, rfl⟩ | ⟨a1, rfl, d, rfl⟩
        · refine ⟨_, rfl, Or.inl ⟨e9.trans a1, rfl, num, upd lim 2 (nI (nmV (lt0 tl lett) (i0 + 1))), ?_, ?_⟩⟩
          · unfold itS itW itE
            rw [if_neg h22, if_neg w9, if_neg w9]
          · unfold itW itR
            rw [if_neg w9, if_neg h22, if_neg w9, l9]
            refine ⟨fun j hj => ?_, fun w hw => ?_⟩
            · rw [upd_un (by omega)]
              exact hR.1 j hj
            · by_cases hk : w = 2
              · rw [hk, upd_us, upd_us]
              · rw [upd_un hk, upd_un (by omega)]
                exact hR.2 w hw
        · exact ⟨_, rfl, Or.inr ⟨e9.trans a1, rfl, _, _, _, _, _, rfl⟩⟩
      by_cases hsw119 : (lt0 tl lett i0) = 119
      · refine aw_lsw (tgt := 127) (off := 79) C dX1_readItem_48 (by decide) (by rw [hsw119]; rfl) (by decide) ?_
        refine aw_aload_n C dX1_readItem_127 (i := 0) rfl rfl ?_
        refine aw_aload_n C dX1_readItem_128 (i := 1) rfl rfl ?_
        refine aw_V1x (k := 2) C dX1_readItem_129 cv_X1_60 (by decide) rfl rfl rfl (cb_readWire hI (by omega) hl hb hdw) ⟨Nat.le_of_ble_eq_true rfl, Nat.le_of_ble_eq_true rfl⟩ (Nat.le_of_ble_eq_true rfl) (fun x g hp9 => ?_)
        refine aw_zret C hr dX1_readItem_132 (by rcases hp9 with ⟨-, rfl, -⟩ | ⟨-, rfl, -⟩ <;> exact bi_nar) ?_
        have g9 : (decide (i0 = 0) = decide ((lt0 tl lett i0) = 115)) := by rw [decide_eq_false (fun e9 => absurd (hz.mpr e9) (by omega)), decide_eq_false h22]
        have e9 : (itO (lt0 tl lett) dwi i0 && decide ((lt0 tl lett) (itE (lt0 tl lett) i0) = 59)) = (wrO (lt0 tl lett) dwi i0 && decide ((lt0 tl lett) (wrE (lt0 tl lett) i0 5) = 59)) := by unfold itO itE; rw [if_pos g9, if_neg h22, if_pos hsw119, if_pos hsw119]
        rcases hp9 with ⟨a1, rfl, rfl⟩ | ⟨a1, rfl, d, n9, rfl⟩
        · have h8 : dwi < 8 := by
            rw [Bool.and_eq_true] at a1
            have a2 := a1.1
            unfold wrO at a2
            simp only [Bool.and_eq_true, decide_eq_true_eq] at a2
            omega
          refine ⟨_, rfl, Or.inl ⟨e9.trans a1, rfl, cpO (wrV (lt0 tl lett) i0) num (dwi * 5) 5, lim, ?_, ?_⟩⟩
          · unfold itS itW itE
            rw [if_neg h22, if_pos hsw119, if_pos hsw119]
          · unfold itW itR
            rw [if_pos hsw119, if_neg h22, if_pos hsw119, Nat.mul_comm dwi 5]
            refine ⟨fun j hj => ?_, fun w hw => ?_⟩
            · unfold cpO
              split
              · exact hR.1 j (by omega)
              · rw [if_pos (by omega), if_pos (by omega)]
            · unfold cpO
              rw [if_neg (by omega), if_neg (by omega)]
              exact hR.2 w hw
        · exact ⟨_, rfl, Or.inr ⟨e9.trans a1, rfl, _, _, _, _, _, rfl⟩⟩
      refine aw_lsw (tgt := 133) (off := 85) C dX1_readItem_48 (by decide) (by rw [show (#[(103, 58), (104, 65), (115, 52), (116, 72), (119, 79)] : Array (Int × Int)).toList = [(103, 58), (104, 65), (115, 52), (116, 72), (119, 79)] from rfl, lv_osw (k := nI 103) (a := 103) (fun e9 => hsw103 ((nI_eq (by omega) (by omega)).mp e9)) (by decide), lv_osw (k := nI 104) (a := 104) (fun e9 => hsw104 ((nI_eq (by omega) (by omega)).mp e9)) (by decide), lv_osw (k := nI 115) (a := 115) (fun e9 => hsw115 ((nI_eq (by omega) (by omega)).mp e9)) (by decide), lv_osw (k := nI 116) (a := 116) (fun e9 => hsw116 ((nI_eq (by omega) (by omega)).mp e9)) (by decide), lv_osw (k := nI 119) (a := 119) (fun e9 => hsw119 ((nI_eq (by omega) (by omega)).mp e9)) (by decide)]; rfl) (by decide) ?_
      refine aw_iconst C dX1_readItem_133 ki_0 ?_
      refine aw_zret C hr dX1_readItem_134 (by decide) ?_
      have g9 : (decide (i0 = 0) = decide ((lt0 tl lett i0) = 115)) := by rw [decide_eq_false (fun e9 => absurd (hz.mpr e9) (by omega)), decide_eq_false h22]
      have l9 : lmN (lt0 tl lett i0) = 3 := by unfold lmN; rw [if_neg hsw103, if_neg hsw104, if_neg hsw116]
      exact ⟨_, rfl, Or.inr ⟨by unfold itO; rw [if_pos g9, if_neg h22, if_neg hsw119, if_pos l9]; rfl, rfl, _, _, _, _, _, rfl⟩⟩
    · refine aw_iconst C dX1_readItem_37 ki_1 ?_
      refine aw_goto (tgt := 42) C dX1_readItem_38 (by decide) ?_
      refine aw_icmp_eq_n (tgt := 47) C dX1_readItem_42 (by decide) (by omega) (by omega) (fun h42 => absurd h42 (by decide)) (fun h42 => ?_)
      refine aw_iconst C dX1_readItem_45 ki_0 ?_
      refine aw_zret C hr dX1_readItem_46 (by decide) ?_
      have g9 : ¬ (decide (i0 = 0) = decide ((lt0 tl lett i0) = 115)) := by rw [decide_eq_true (hz.mp h34), decide_eq_false h22]; decide
      exact ⟨_, rfl, Or.inr ⟨by unfold itO; rw [if_neg g9]; rfl, rfl, _, _, _, _, _, rfl⟩⟩
  · refine aw_iconst C dX1_readItem_25 ki_1 ?_
    refine aw_goto (tgt := 30) C dX1_readItem_26 (by decide) ?_
    refine aw_aload_n C dX1_readItem_30 (i := 0) rfl rfl ?_
    refine aw_get (k := 2) C dX1_readItem_31 fl_X1_18 (by decide) rfl rfl ?_
    refine aw_if_ne_n (tgt := 41) C dX1_readItem_34 (by decide) (by omega) (fun h34 => ?_) (fun h34 => ?_)
    · refine aw_iconst C dX1_readItem_41 ki_0 ?_
      refine aw_icmp_eq_n (tgt := 47) C dX1_readItem_42 (by decide) (by omega) (by omega) (fun h42 => absurd h42 (by decide)) (fun h42 => ?_)
      refine aw_iconst C dX1_readItem_45 ki_0 ?_
      refine aw_zret C hr dX1_readItem_46 (by decide) ?_
      have g9 : ¬ (decide (i0 = 0) = decide ((lt0 tl lett i0) = 115)) := by rw [decide_eq_false (fun e9 => absurd (hz.mpr e9) (by omega)), decide_eq_true h22]; decide
      exact ⟨_, rfl, Or.inr ⟨by unfold itO; rw [if_neg g9]; rfl, rfl, _, _, _, _, _, rfl⟩⟩
    · refine aw_iconst C dX1_readItem_37 ki_1 ?_
      refine aw_goto (tgt := 42) C dX1_readItem_38 (by decide) ?_
      refine aw_icmp_eq_n (tgt := 47) C dX1_readItem_42 (by decide) (by omega) (by omega) (fun h42 => ?_) (fun h42 => absurd rfl h42)
      refine aw_iload_n C dX1_readItem_47 (i := 2) rfl rfl ?_
      by_cases hsw103 : (lt0 tl lett i0) = 103
      · exact absurd hsw103 (by omega)
      by_cases hsw104 : (lt0 tl lett i0) = 104
      · exact absurd hsw104 (by omega)
      by_cases hsw115 : (lt0 tl lett i0) = 115
      · refine aw_lsw (tgt := 100) (off := 52) C dX1_readItem_48 (by decide) (by rw [hsw115]; rfl) (by decide) ?_
        refine aw_aload_n C dX1_readItem_100 (i := 0) rfl rfl ?_
        refine aw_aload_n C dX1_readItem_101 (i := 1) rfl rfl ?_
        refine aw_V1x (k := 2) C dX1_readItem_102 cv_X1_53 (by decide) rfl rfl rfl (cb_readSpan hI (by omega) hl hb) ⟨Nat.le_of_ble_eq_true rfl, Nat.le_of_ble_eq_true rfl⟩ (Nat.le_of_ble_eq_true rfl) (fun x g hp9 => ?_)
        refine aw_zret C hr dX1_readItem_105 (by rcases hp9 with ⟨-, rfl, -⟩ | ⟨-, rfl, -⟩ <;> exact bi_nar) ?_
        have g9 : (decide (i0 = 0) = decide ((lt0 tl lett i0) = 115)) := by rw [decide_eq_true (hz.mp h34), decide_eq_true h22]
        have w9 : ¬ (lt0 tl lett i0) = 119 := by rw [h22]; decide
        have e9 : (itO (lt0 tl lett) dwi i0 && decide ((lt0 tl lett) (itE (lt0 tl lett) i0) = 59)) = (nmO (lt0 tl lett) (i0 + 1) (nI 8) (nI 40) && decide ((lt0 tl lett) (nmE (lt0 tl lett) (i0 + 1)) = 59)) := by unfold itO itE; rw [if_pos g9, if_pos h22, if_neg w9]
        rcases hp9 with ⟨a1, rfl, rfl⟩ | ⟨a1, rfl, d, rfl⟩
        · refine ⟨_, rfl, Or.inl ⟨e9.trans a1, rfl, num, lim, ?_, ?_⟩⟩
          · unfold itS itW itE
            rw [if_pos h22, if_neg w9, if_neg w9]
          · unfold itW itR
            rw [if_neg w9, if_pos h22]
            exact hR
        · exact ⟨_, rfl, Or.inr ⟨e9.trans a1, rfl, _, _, _, _, _, rfl⟩⟩
      by_cases hsw116 : (lt0 tl lett i0) = 116
      · exact absurd hsw116 (by omega)
      by_cases hsw119 : (lt0 tl lett i0) = 119
      · exact absurd hsw119 (by omega)
      refine aw_lsw (tgt := 133) (off := 85) C dX1_readItem_48 (by decide) (by rw [show (#[(103, 58), (104, 65), (115, 52), (116, 72), (119, 79)] : Array (Int × Int)).toList = [(103, 58), (104, 65), (115, 52), (116, 72), (119, 79)] from rfl, lv_osw (k := nI 103) (a := 103) (fun e9 => hsw103 ((nI_eq (by omega) (by omega)).mp e9)) (by decide), lv_osw (k := nI 104) (a := 104) (fun e9 => hsw104 ((nI_eq (by omega) (by omega)).mp e9)) (by decide), lv_osw (k := nI 115) (a := 115) (fun e9 => hsw115 ((nI_eq (by omega) (by omega)).mp e9)) (by decide), lv_osw (k := nI 116) (a := 116) (fun e9 => hsw116 ((nI_eq (by omega) (by omega)).mp e9)) (by decide), lv_osw (k := nI 119) (a := 119) (fun e9 => hsw119 ((nI_eq (by omega) (by omega)).mp e9)) (by decide)]; rfl) (by decide) ?_
      refine aw_iconst C dX1_readItem_133 ki_0 ?_
      refine aw_zret C hr dX1_readItem_134 (by decide) ?_
      exact absurd h22 hsw115
theorem itS_ok {t : Nat → Nat} {wn sp i : Nat} (h : itO t wn i = true) (hz : sp = 0 ↔ i = 0) (hs : sp ≤ 99) : itS t sp i ≤ 99 ∧ ¬ itS t sp i = 0 := by
  unfold itO at h
  split at h
  · next g =>
    unfold itS
    by_cases hc : t i = 115
    · rw [if_pos hc] at h ⊢
      have h1 := (nmO_iff.mp h).2.1
      have h2 := nmV_le t (i + 1)
      have h3 := (nI_leI (by omega) (by omega)).mp h1
      omega
    · rw [if_neg hc]
      refine ⟨hs, fun h0 => ?_⟩
      have hi := hz.mp h0
      rw [decide_eq_true hi, decide_eq_false hc] at g
      cases g
  · cases h
theorem rlZ {num lim : Nat → Int32} : rlN num (va_cpy (zF 3) lim 0 0 3) 0 rdZ := by
  refine ⟨fun j hj => by omega, fun w hw => ?_⟩
  rw [cpy_all hw]
  match w, hw with
  | 0, _ => decide
  | 1, _ => decide
  | 2, _ => decide
set_option maxRecDepth 20000 in
/-- read, its loop -/
theorem cb_read_l {l : Launch} {D : va_G} {cy : Nat → ClassId} {z : Nat → Nat} {q : Nat → Nat} {p : Program} {e : Env} {s : State} {m : MethodId} {args : Array Value} {below : List Frame} {meth : Method} {c : Code} (hI : wI 49 q) (C : Cx p s m args meth c cX1_read 4 RX1 D cy z 49 q) (hr : meth.sig.returnType = none) {tl bsp bwi pnx phd vkn : Nat} {lbl lsh lpk : Int32} {lett : Nat → Nat} {now : Nat → Int32} {prw plr hgr : Nat → Nat → Int32} {bk bd wio wys trl : Nat → Int32} {clr : Nat → Int64} {tld tie fst las saw : Nat → Int32} (hl : tl ≤ 200) (hb : ∀ j, lett j ≤ 1000) : ∀ (d : Nat) (i : Nat) (k : Nat) (sp : Nat) (wn : Nat) (num : Nat → Int32) (lim : Nat → Int32) (R : Nat → Int32), tl - i < d → (i ≤ 300) → (wn ≤ 8) → (sp ≤ 99) → (sp = 0 ↔ i = 0) → (rlN num lim wn R) → (k ≤ i ∧ k ≤ 300) → AW p l e { frames := 4, cells := 0, slots := 0, locals := 90 } s m args below meth c D 49 q 4 (MQ below (Qg D 49 q (PY (fun g => ∃ s9 w9 d9 n9 l9, g = (bwC cy q tl s9 w9 d9 bsp bwi pnx phd vkn (rdL (lt0 tl lett) tl d i sp wn R).1 lbl lsh lpk lett n9 l9 now prw plr hgr bk bd wio wys trl clr tld tie fst las saw) ∧ ((rdL (lt0 tl lett) tl d i sp wn R).1 = -4 → s9 = (rdL (lt0 tl lett) tl d i sp wn R).2.1 ∧ w9 = (rdL (lt0 tl lett) tl d i sp wn R).2.2.1 ∧ rlN n9 l9 w9 (rdL (lt0 tl lett) tl d i sp wn R).2.2.2))) (wA 49 q s.heap.size)) args s 0 0 (wA 49 q s.heap.size)) (bwC cy q tl sp wn i bsp bwi pnx phd vkn (-4) lbl lsh lpk lett num lim now prw plr hgr bk bd wio wys trl clr tld tie fst las saw) [(0, .ref (q 2)), (1, .ref (q 1)), (2, .int (nI k))] 36 [] := by
  intro d
  induction d with
  | zero => intro i k sp wn num lim R hd; exact absurd hd (Nat.not_lt_zero _)
  | succ d ih =>
    intro i k sp wn num lim R hd iv0 iv1 iv2 iv3 iv4 iv5
    refine aw_iload_n C dX1_read_36 (i := 2) rfl rfl ?_
    refine aw_sipush C dX1_read_37 ks_200 ?_
    refine aw_icmp_ge_n (tgt := 79) C dX1_read_40 (by decide) (by omega) (by omega) (fun h40 => ?_) (fun h40 => ?_)
    · refine aw_vret C hr dX1_read_79 ?_
      have e2 : rdL (lt0 tl lett) tl (d + 1) i sp wn R = (-4, sp, wn, R) := by show (if _ then _ else _) = _; rw [if_neg (by omega)]
      rw [e2]
      exact ⟨rfl, _, _, _, _, _, rfl, fun _ => ⟨rfl, rfl, iv4⟩⟩
    · refine aw_aload_n C dX1_read_43 (i := 0) rfl rfl ?_
      refine aw_get (k := 2) C dX1_read_44 fl_X1_25 (by decide) rfl rfl ?_
      refine aw_aload_n C dX1_read_47 (i := 1) rfl rfl ?_
      refine aw_get (k := 1) C dX1_read_48 fl_X1_40 (by decide) rfl rfl ?_
      refine aw_icmp_ge_n (tgt := 79) C dX1_read_51 (by decide) (by omega) (by omega) (fun h51 => ?_) (fun h51 => ?_)
      · refine aw_vret C hr dX1_read_79 ?_
        have e2 : rdL (lt0 tl lett) tl (d + 1) i sp wn R = (-4, sp, wn, R) := by show (if _ then _ else _) = _; rw [if_neg (by omega)]
        rw [e2]
        exact ⟨rfl, _, _, _, _, _, rfl, fun _ => ⟨rfl, rfl, iv4⟩⟩
      · refine aw_aload_n C dX1_read_54 (i := 0) rfl rfl ?_
        refine aw_get (k := 2) C dX1_read_55 fl_X1_25 (by decide) rfl rfl ?_
        refine aw_istore_n (lv' := [(0, _), (1, _), (2, _), (3, _)]) C dX1_read_58 (i := 3) rfl (Nat.le_of_ble_eq_true rfl) rfl ?_
        refine aw_aload_n C dX1_read_59 (i := 0) rfl rfl ?_
        refine aw_aload_n C dX1_read_60 (i := 1) rfl rfl ?_
        refine aw_V1x (k := 2) C dX1_read_61 cv_X1_45 (by decide) rfl rfl rfl (cb_readItem hI (R0 := R) (by omega) (by omega) (by omega) iv3 iv4 hl hb) ⟨Nat.le_of_ble_eq_true rfl, Nat.le_of_ble_eq_true rfl⟩ (Nat.le_of_ble_eq_true rfl) (fun x g hp9 => ?_)
        refine aw_if_ne (tgt := 73) C dX1_read_64 (by decide) (fun h64 => ?_) (fun h64 => ?_)
        · obtain ⟨a1, n9, l9, rfl, hr9⟩ : (itO (lt0 tl lett) wn i && decide ((lt0 tl lett) (itE (lt0 tl lett) i) = 59)) = true ∧ ∃ n9 l9, g = (bwC cy q tl (itS (lt0 tl lett) sp i) (itW (lt0 tl lett) wn i) (itE (lt0 tl lett) i + 1) bsp bwi pnx phd vkn (-4) lbl lsh lpk lett n9 l9 now prw plr hgr bk bd wio wys trl clr tld tie fst las saw) ∧ rlN n9 l9 (itW (lt0 tl lett) wn i) (itR (lt0 tl lett) wn R i) := by
            rcases hp9 with ⟨a1, _, hp9⟩ | ⟨_, rfl, _⟩
            · exact ⟨a1, hp9⟩
            · exact absurd rfl h64
          have hie := itE_le (lt0 tl lett) i
          rw [Bool.and_eq_true, decide_eq_true_eq] at a1
          refine aw_iinc_n (lv' := [(0, _), (1, _), (2, _), (3, _)]) C dX1_read_73 rfl ki_1 (Nat.le_of_ble_eq_true rfl) rfl ?_
          refine aw_goto (tgt := 36) C dX1_read_76 (by decide) ?_
          refine aw_take 3 (lv' := [(0, _), (1, _), (2, _)]) rfl ?_
          have e2 : rdL (lt0 tl lett) tl (d + 1) i sp wn R = rdL (lt0 tl lett) tl d (itE (lt0 tl lett) i + 1) (itS (lt0 tl lett) sp i) (itW (lt0 tl lett) wn i) (itR (lt0 tl lett) wn R i) := by show (if _ then _ else _) = _; rw [if_pos (by omega), if_pos a1.1, if_pos a1.2]
          rw [e2]
          have hs9 := itS_ok a1.1 iv3 iv2
          exact ih _ _ _ _ _ _ _ (by omega) (by omega) (itW_le a1.1 iv1) hs9.1 ⟨fun h9 => absurd h9 hs9.2, fun h9 => by omega⟩ hr9 (by omega)
        · obtain ⟨a1, s9, w9, d9, n9, l9, rfl⟩ : (itO (lt0 tl lett) wn i && decide ((lt0 tl lett) (itE (lt0 tl lett) i) = 59)) = false ∧ ∃ s9 w9 d9 n9 l9, g = (bwC cy q tl s9 w9 d9 bsp bwi pnx phd vkn (-4) lbl lsh lpk lett n9 l9 now prw plr hgr bk bd wio wys trl clr tld tie fst las saw) := by
            rcases hp9 with ⟨_, rfl, _⟩ | ⟨a1, _, hp9⟩
            · exact absurd h64 (by decide)
            · exact ⟨a1, hp9⟩
          refine aw_aload_n C dX1_read_67 (i := 0) rfl rfl ?_
          refine aw_iload_n C dX1_read_68 (i := 3) rfl rfl ?_
          refine aw_put (k := 2) C dX1_read_69 fp_X1_28 (by decide) rfl rfl rfl (Nat.le_of_ble_eq_true rfl) bw_p_dff ?_
          refine aw_vret C hr dX1_read_72 ?_
          have e2 : rdL (lt0 tl lett) tl (d + 1) i sp wn R = (nI i, sp, wn, R) := by
            show (if _ then _ else _) = _
            rw [if_pos (by omega)]
            rw [Bool.and_eq_false_iff] at a1
            rcases a1 with a1 | a1
            · rw [if_neg (by rw [a1]; decide)]
            · by_cases hq : itO (lt0 tl lett) wn i = true
              · rw [if_pos hq, if_neg (of_decide_eq_false a1)]
              · rw [if_neg hq]
          rw [e2]
          exact ⟨rfl, _, _, _, _, _, rfl, fun h9 => absurd h9 (nI_m4 (by omega))⟩
set_option maxRecDepth 20000 in
/-- read -/
theorem cb_read {l : Launch} {D : va_G} {cy : Nat → ClassId} {z : Nat → Nat} {q : Nat → Nat} (hI : wI 49 q) {tl dsp dwi dat bsp bwi pnx phd vkn : Nat} {dff lbl lsh lpk : Int32} {lett : Nat → Nat} {num lim now : Nat → Int32} {prw plr hgr : Nat → Nat → Int32} {bk bd wio wys trl : Nat → Int32} {clr : Nat → Int64} {tld tie fst las saw : Nat → Int32} (hl : tl ≤ 200) (hb : ∀ j, lett j ≤ 1000) : Ct l yX1_read cX1_read 4 none 4 90 D cy z 49 q [.ref (q 2), .ref (q 1)] (bwC cy q tl dsp dwi dat bsp bwi pnx phd vkn dff lbl lsh lpk lett num lim now prw plr hgr bk bd wio wys trl clr tld tie fst las saw) (PY (fun g => ∃ s9 w9 d9 n9 l9, g = (bwC cy q tl s9 w9 d9 bsp bwi pnx phd vkn (rdT tl lett).1 lbl lsh lpk lett n9 l9 now prw plr hgr bk bd wio wys trl clr tld tie fst las saw) ∧ ((rdT tl lett).1 = -4 → s9 = (rdT tl lett).2.1 ∧ w9 = (rdT tl lett).2.2.1 ∧ rlN n9 l9 w9 (rdT tl lett).2.2.2))) := by
  refine Ct.of (own := RX1) (by decide) rfl hI (Nat.le_of_ble_eq_true rfl) ?_
  intro p e s m args below meth c C hr
  refine aw_lv (lv' := [(0, .ref (q 2)), (1, .ref (q 1))]) (fun x hx => hx) ?_
  refine aw_aload_n C dX1_read_0 (i := 0) rfl rfl ?_
  refine aw_iconst C dX1_read_1 ki_0 ?_
  refine aw_put (k := 2) C dX1_read_2 fp_X1_18 (by decide) rfl rfl rfl (Nat.le_of_ble_eq_true rfl) bw_p_dsp ?_
  refine aw_aload_n C dX1_read_5 (i := 0) rfl rfl ?_
  refine aw_iconst C dX1_read_6 ki_0 ?_
  refine aw_put (k := 2) C dX1_read_7 fp_X1_22 (by decide) rfl rfl rfl (Nat.le_of_ble_eq_true rfl) bw_p_dwi ?_
  refine aw_aload_n C dX1_read_10 (i := 0) rfl rfl ?_
  refine aw_iconst C dX1_read_11 ki_0 ?_
  refine aw_put (k := 2) C dX1_read_12 fp_X1_25 (by decide) rfl rfl rfl (Nat.le_of_ble_eq_true rfl) bw_p_dat ?_
  refine aw_aload_n C dX1_read_15 (i := 0) rfl rfl ?_
  refine aw_bipush C dX1_read_16 kb_m4 ?_
  refine aw_put (k := 2) C dX1_read_18 fp_X1_28 (by decide) rfl rfl rfl (Nat.le_of_ble_eq_true rfl) bw_p_dff ?_
  refine aw_gets (j := 3) (host := "BondedWires") C dX1_read_21 (by decide) (Or.inr (nw_at 327 (by decide +kernel) rfl)) ?_
  refine aw_iconst C dX1_read_24 ki_0 ?_
  refine aw_aload_n C dX1_read_25 (i := 0) rfl rfl ?_
  refine aw_get (k := 2) C dX1_read_26 fl_X1_15 (by decide) rfl rfl ?_
  refine aw_iconst C dX1_read_29 ki_0 ?_
  refine aw_iconst C dX1_read_30 ki_3 ?_
  refine aw_copyz (j := 3) (k1 := 11) C dX1_read_31 ccy_X1_34 (by decide) (by decide) (rfl) (by decide) (by decide) (by decide) (by decide) (Nat.le_of_ble_eq_true rfl) (Nat.le_of_ble_eq_true rfl) (Nat.le_of_ble_eq_true rfl) (bw_a_lim) ?_
  refine aw_iconst C dX1_read_34 ki_0 ?_
  refine aw_istore_n (lv' := [(0, _), (1, _), (2, _)]) C dX1_read_35 (i := 2) rfl (Nat.le_of_ble_eq_true rfl) rfl ?_
  exact cb_read_l hI C hr hl hb (tl + 1) 0 0 0 0 _ _ rdZ (by omega) (by omega) (by omega) (by omega) ⟨fun _ => rfl, fun _ => rfl⟩ rlZ (by omega)
