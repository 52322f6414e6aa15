-- the reference: items, the text, laying it
set_option maxRecDepth 20000 in
/-- readsItem -/
theorem cm_readsItem {l : Launch} {D : va_G} {cy : Nat → ClassId} {z : Nat → Nat} {q : Nat → Nat} (hI : wI 9 q) {len span wires chg rsp rwi val ends : Nat} {text : Nat → Nat} {h was rd eyes fw bars ways : Nat → Int32} {i0 : Nat} (hi0 : i0 ≤ 300) (hl : len ≤ 200) (hb : ∀ j, text j ≤ 1000) (hrw : rwi ≤ 8) : Ct l yX9_readsItem cX9_readsItem 4 (some .boolean) 3 68 D cy z 9 q [.ref (q 0), .int (nI (lt0 len text i0)), .int (nI (i0 + 1))] (mdC cy q len span wires chg rsp rwi val ends text h was rd eyes fw bars ways) (PX (fun x g => ((itO (lt0 len text) rwi i0) = true ∧ x = bi true ∧ ∃ v, g = (mdC cy q len span wires chg (itS (lt0 len text) rsp i0) (itW (lt0 len text) rwi i0) v (itE (lt0 len text) i0) text h was (itR (lt0 len text) rwi rd i0) eyes fw bars ways)) ∨ ((itO (lt0 len text) rwi i0) = false ∧ x = bi false ∧ ∃ s9 w9 v e9 r9, g = (mdC cy q len span wires chg s9 w9 v e9 text h was r9 eyes fw bars ways)))) := by
  refine Ct.of (own := RX9) (by decide) rfl hI (Nat.le_of_ble_eq_true rfl) ?_
  intro p e s m args below meth c C hr
  refine aw_lv (lv' := [(0, .ref (q 0)), (1, .int (nI (lt0 len text i0))), (2, .int (nI (i0 + 1)))]) (fun x hx => hx) ?_
  have hlb := lt0_b (len := len) (p := i0) hb
  refine aw_iload_n C dX9_readsItem_0 (i := 2) rfl rfl ?_
  refine aw_iconst C dX9_readsItem_1 ki_1 ?_
  refine aw_icmp_ne_n (tgt := 9) C dX9_readsItem_2 (by decide) (by omega) (by omega) (fun h2 => ?_) (fun h2 => ?_)
  · refine aw_iconst C dX9_readsItem_9 ki_0 ?_
    refine aw_iload_n C dX9_readsItem_10 (i := 1) rfl rfl ?_
    refine aw_bipush C dX9_readsItem_11 kb_115 ?_
    refine aw_icmp_ne_n (tgt := 20) C dX9_readsItem_13 (by decide) (by omega) (by omega) (fun h13 => ?_) (fun h13 => ?_)
    · refine aw_iconst C dX9_readsItem_20 ki_0 ?_
      refine aw_icmp_eq_n (tgt := 26) C dX9_readsItem_21 (by decide) (by omega) (by omega) (fun h21 => ?_) (fun h21 => absurd rfl h21)
      refine aw_iload_n C dX9_readsItem_26 (i := 1) rfl rfl ?_
      refine aw_bipush C dX9_readsItem_27 kb_115 ?_
      refine aw_icmp_ne_n (tgt := 52) C dX9_readsItem_29 (by decide) (by omega) (by omega) (fun h29 => ?_) (fun h29 => absurd h29 h13)
      refine aw_iload_n C dX9_readsItem_52 (i := 1) rfl rfl ?_
      refine aw_bipush C dX9_readsItem_53 kb_119 ?_
      refine aw_icmp_ne_n (tgt := 64) C dX9_readsItem_55 (by decide) (by omega) (by omega) (fun h55 => ?_) (fun h55 => ?_)
      · refine aw_iload_n C dX9_readsItem_64 (i := 1) rfl rfl ?_
        refine aw_bipush C dX9_readsItem_65 kb_103 ?_
        refine aw_icmp_ne_n (tgt := 74) C dX9_readsItem_67 (by decide) (by omega) (by omega) (fun h67 => ?_) (fun h67 => ?_)
        · refine aw_iload_n C dX9_readsItem_74 (i := 1) rfl rfl ?_
          refine aw_bipush C dX9_readsItem_75 kb_104 ?_
          refine aw_icmp_ne_n (tgt := 84) C dX9_readsItem_77 (by decide) (by omega) (by omega) (fun h77 => ?_) (fun h77 => ?_)
          · refine aw_iload_n C dX9_readsItem_84 (i := 1) rfl rfl ?_
            refine aw_bipush C dX9_readsItem_85 kb_116 ?_
            refine aw_icmp_ne_n (tgt := 94) C dX9_readsItem_87 (by decide) (by omega) (by omega) (fun h87 => ?_) (fun h87 => ?_)
            · refine aw_iconst C dX9_readsItem_94 ki_m1 ?_
              refine aw_istore_n (lv' := [(0, _), (1, _), (2, _), (3, _)]) C dX9_readsItem_95 (i := 3) rfl (Nat.le_of_ble_eq_true rfl) rfl ?_
              refine aw_iload_n C dX9_readsItem_96 (i := 3) rfl rfl ?_
              refine aw_if_lt (tgt := 113) C dX9_readsItem_97 (by decide) (fun h97 => ?_) (fun h97 => absurd (by decide) h97)
              refine aw_iconst C dX9_readsItem_113 ki_0 ?_
              refine aw_zret C hr dX9_readsItem_114 (by decide) ?_
              have g9 : (decide (i0 = 0) = decide ((lt0 len text i0) = 115)) := by rw [decide_eq_false (show ¬ i0 = 0 by omega), decide_eq_false h13]
              have l9 : lmN (lt0 len text i0) = 3 := by unfold lmN; rw [if_neg h67, if_neg h77, if_neg h87]
              exact ⟨_, rfl, Or.inr ⟨by unfold itO; rw [if_pos g9, if_neg h13, if_neg h55, if_pos l9], rfl, _, _, _, _, _, rfl⟩⟩
            · refine aw_iconst C dX9_readsItem_90 ki_2 ?_
              refine aw_goto (tgt := 95) C dX9_readsItem_91 (by decide) ?_
              refine aw_istore_n (lv' := [(0, _), (1, _), (2, _), (3, _)]) C dX9_readsItem_95 (i := 3) rfl (Nat.le_of_ble_eq_true rfl) rfl ?_
              refine aw_iload_n C dX9_readsItem_96 (i := 3) rfl rfl ?_
              refine aw_if_lt_n (tgt := 113) C dX9_readsItem_97 (by decide) (by omega) ?_
              refine aw_aload_n C dX9_readsItem_100 (i := 0) rfl rfl ?_
              refine aw_iload_n C dX9_readsItem_101 (i := 2) rfl rfl ?_
              refine aw_iconst C dX9_readsItem_102 ki_1 ?_
              refine aw_iload_n C dX9_readsItem_103 (i := 3) rfl rfl ?_
              refine aw_S1i C dX9_readsItem_104 cs_X9_77 (cm_most hI) ⟨Nat.le_of_ble_eq_true rfl, Nat.le_of_ble_eq_true rfl⟩ (Nat.le_of_ble_eq_true rfl) ?_
              refine aw_V3i (k := 0) C dX9_readsItem_107 cv_X9_67 (by decide) rfl rfl rfl (cm_number hI (by omega) hl hb) ⟨Nat.le_of_ble_eq_true rfl, Nat.le_of_ble_eq_true rfl⟩ (Nat.le_of_ble_eq_true rfl) ?_
              refine aw_if_ne_b (tgt := 115) C dX9_readsItem_110 (by decide) (fun h110 => ?_) (fun h110 => ?_)
              · refine aw_aload_n C dX9_readsItem_115 (i := 0) rfl rfl ?_
                refine aw_get (k := 0) C dX9_readsItem_116 fl_X9_19 (by decide) rfl rfl ?_
                refine aw_bipush C dX9_readsItem_119 kb_40 ?_
                refine aw_iload_n C dX9_readsItem_121 (i := 3) rfl rfl ?_
                refine aw_iadd_n C dX9_readsItem_122 ?_
                refine aw_aload_n C dX9_readsItem_123 (i := 0) rfl rfl ?_
                refine aw_get (k := 0) C dX9_readsItem_124 fl_X9_44 (by decide) rfl rfl ?_
                refine aw_iast (k := 4) C dX9_readsItem_127 (by decide) (rfl) (rfl) (by omega) (by decide) (md_a_rd) ?_
                refine aw_iconst C dX9_readsItem_128 ki_1 ?_
                refine aw_zret C hr dX9_readsItem_129 (by decide) ?_
                have g9 : (decide (i0 = 0) = decide ((lt0 len text i0) = 115)) := by rw [decide_eq_false (show ¬ i0 = 0 by omega), decide_eq_false h13]
                have l9 : lmN (lt0 len text i0) = 2 := by unfold lmN; rw [if_neg h67, if_neg h77, if_pos h87]
                refine ⟨_, rfl, Or.inl ⟨by unfold itO; rw [if_pos g9, if_neg h13, if_neg h55, if_neg (by rw [l9]; decide), l9]; exact h110, rfl, nmV (lt0 len text) (i0 + 1), ?_⟩⟩
                unfold itS itW itE itR
                rw [if_neg h13, if_neg h55, if_neg h55, if_neg h13, if_neg h55, l9]
              · refine aw_iconst C dX9_readsItem_113 ki_0 ?_
                refine aw_zret C hr dX9_readsItem_114 (by decide) ?_
                have g9 : (decide (i0 = 0) = decide ((lt0 len text i0) = 115)) := by rw [decide_eq_false (show ¬ i0 = 0 by omega), decide_eq_false h13]
                have l9 : lmN (lt0 len text i0) = 2 := by unfold lmN; rw [if_neg h67, if_neg h77, if_pos h87]
                exact ⟨_, rfl, Or.inr ⟨by unfold itO; rw [if_pos g9, if_neg h13, if_neg h55, if_neg (by rw [l9]; decide), l9]; exact h110, rfl, _, _, _, _, _, rfl⟩⟩
          · refine aw_iconst C dX9_readsItem_80 ki_1 ?_
            refine aw_goto (tgt := 95) C dX9_readsItem_81 (by decide) ?_
            refine aw_istore_n (lv' := [(0, _), (1, _), (2, _), (3, _)]) C dX9_readsItem_95 (i := 3) rfl (Nat.le_of_ble_eq_true rfl) rfl ?_
            refine aw_iload_n C dX9_readsItem_96 (i := 3) rfl rfl ?_
            refine aw_if_lt_n (tgt := 113) C dX9_readsItem_97 (by decide) (by omega) ?_
            refine aw_aload_n C dX9_readsItem_100 (i := 0) rfl rfl ?_
            refine aw_iload_n C dX9_readsItem_101 (i := 2) rfl rfl ?_
            refine aw_iconst C dX9_readsItem_102 ki_1 ?_
            refine aw_iload_n C dX9_readsItem_103 (i := 3) rfl rfl ?_
            refine aw_S1i C dX9_readsItem_104 cs_X9_77 (cm_most hI) ⟨Nat.le_of_ble_eq_true rfl, Nat.le_of_ble_eq_true rfl⟩ (Nat.le_of_ble_eq_true rfl) ?_
            refine aw_V3i (k := 0) C dX9_readsItem_107 cv_X9_67 (by decide) rfl rfl rfl (cm_number hI (by omega) hl hb) ⟨Nat.le_of_ble_eq_true rfl, Nat.le_of_ble_eq_true rfl⟩ (Nat.le_of_ble_eq_true rfl) ?_
            refine aw_if_ne_b (tgt := 115) C dX9_readsItem_110 (by decide) (fun h110 => ?_) (fun h110 => ?_)
            · refine aw_aload_n C dX9_readsItem_115 (i := 0) rfl rfl ?_
              refine aw_get (k := 0) C dX9_readsItem_116 fl_X9_19 (by decide) rfl rfl ?_
              refine aw_bipush C dX9_readsItem_119 kb_40 ?_
              refine aw_iload_n C dX9_readsItem_121 (i := 3) rfl rfl ?_
              refine aw_iadd_n C dX9_readsItem_122 ?_
              refine aw_aload_n C dX9_readsItem_123 (i := 0) rfl rfl ?_
              refine aw_get (k := 0) C dX9_readsItem_124 fl_X9_44 (by decide) rfl rfl ?_
              refine aw_iast (k := 4) C dX9_readsItem_127 (by decide) (rfl) (rfl) (by omega) (by decide) (md_a_rd) ?_
              refine aw_iconst C dX9_readsItem_128 ki_1 ?_
              refine aw_zret C hr dX9_readsItem_129 (by decide) ?_
              have g9 : (decide (i0 = 0) = decide ((lt0 len text i0) = 115)) := by rw [decide_eq_false (show ¬ i0 = 0 by omega), decide_eq_false h13]
              have l9 : lmN (lt0 len text i0) = 1 := by unfold lmN; rw [if_neg h67, if_pos h77]
              refine ⟨_, rfl, Or.inl ⟨by unfold itO; rw [if_pos g9, if_neg h13, if_neg h55, if_neg (by rw [l9]; decide), l9]; exact h110, rfl, nmV (lt0 len text) (i0 + 1), ?_⟩⟩
              unfold itS itW itE itR
              rw [if_neg h13, if_neg h55, if_neg h55, if_neg h13, if_neg h55, l9]
            · refine aw_iconst C dX9_readsItem_113 ki_0 ?_
              refine aw_zret C hr dX9_readsItem_114 (by decide) ?_
              have g9 : (decide (i0 = 0) = decide ((lt0 len text i0) = 115)) := by rw [decide_eq_false (show ¬ i0 = 0 by omega), decide_eq_false h13]
              have l9 : lmN (lt0 len text i0) = 1 := by unfold lmN; rw [if_neg h67, if_pos h77]
              exact ⟨_, rfl, Or.inr ⟨by unfold itO; rw [if_pos g9, if_neg h13, if_neg h55, if_neg (by rw [l9]; decide), l9]; exact h110, rfl, _, _, _, _, _, rfl⟩⟩
        · refine aw_iconst C dX9_readsItem_70 ki_0 ?_
          refine aw_goto (tgt := 95) C dX9_readsItem_71 (by decide) ?_
          refine aw_istore_n (lv' := [(0, _), (1, _), (2, _), (3, _)]) C dX9_readsItem_95 (i := 3) rfl (Nat.le_of_ble_eq_true rfl) rfl ?_
          refine aw_iload_n C dX9_readsItem_96 (i := 3) rfl rfl ?_
          refine aw_if_lt_n (tgt := 113) C dX9_readsItem_97 (by decide) (by omega) ?_
          refine aw_aload_n C dX9_readsItem_100 (i := 0) rfl rfl ?_
          refine aw_iload_n C dX9_readsItem_101 (i := 2) rfl rfl ?_
          refine aw_iconst C dX9_readsItem_102 ki_1 ?_
          refine aw_iload_n C dX9_readsItem_103 (i := 3) rfl rfl ?_
          refine aw_S1i C dX9_readsItem_104 cs_X9_77 (cm_most hI) ⟨Nat.le_of_ble_eq_true rfl, Nat.le_of_ble_eq_true rfl⟩ (Nat.le_of_ble_eq_true rfl) ?_
          refine aw_V3i (k := 0) C dX9_readsItem_107 cv_X9_67 (by decide) rfl rfl rfl (cm_number hI (by omega) hl hb) ⟨Nat.le_of_ble_eq_true rfl, Nat.le_of_ble_eq_true rfl⟩ (Nat.le_of_ble_eq_true rfl) ?_
          refine aw_if_ne_b (tgt := 115) C dX9_readsItem_110 (by decide) (fun h110 => ?_) (fun h110 => ?_)
          · refine aw_aload_n C dX9_readsItem_115 (i := 0) rfl rfl ?_
            refine aw_get (k := 0) C dX9_readsItem_116 fl_X9_19 (by decide) rfl rfl ?_
            refine aw_bipush C dX9_readsItem_119 kb_40 ?_
            refine aw_iload_n C dX9_readsItem_121 (i := 3) rfl rfl ?_
            refine aw_iadd_n C dX9_readsItem_122 ?_
            refine aw_aload_n C dX9_readsItem_123 (i := 0) rfl rfl ?_
            refine aw_get (k := 0) C dX9_readsItem_124 fl_X9_44 (by decide) rfl rfl ?_
            refine aw_iast (k := 4) C dX9_readsItem_127 (by decide) (rfl) (rfl) (by omega) (by decide) (md_a_rd) ?_
            refine aw_iconst C dX9_readsItem_128 ki_1 ?_
            refine aw_zret C hr dX9_readsItem_129 (by decide) ?_
            have g9 : (decide (i0 = 0) = decide ((lt0 len text i0) = 115)) := by rw [decide_eq_false (show ¬ i0 = 0 by omega), decide_eq_false h13]
            have l9 : lmN (lt0 len text i0) = 0 := by unfold lmN; rw [if_pos h67]
            refine ⟨_, rfl, Or.inl ⟨by unfold itO; rw [if_pos g9, if_neg h13, if_neg h55, if_neg (by rw [l9]; decide), l9]; exact h110, rfl, nmV (lt0 len text) (i0 + 1), ?_⟩⟩
            unfold itS itW itE itR
            rw [if_neg h13, if_neg h55, if_neg h55, if_neg h13, if_neg h55, l9]
          · refine aw_iconst C dX9_readsItem_113 ki_0 ?_
            refine aw_zret C hr dX9_readsItem_114 (by decide) ?_
            have g9 : (decide (i0 = 0) = decide ((lt0 len text i0) = 115)) := by rw [decide_eq_false (show ¬ i0 = 0 by omega), decide_eq_false h13]
            have l9 : lmN (lt0 len text i0) = 0 := by unfold lmN; rw [if_pos h67]
            exact ⟨_, rfl, Or.inr ⟨by unfold itO; rw [if_pos g9, if_neg h13, if_neg h55, if_neg (by rw [l9]; decide), l9]; exact h110, rfl, _, _, _, _, _, rfl⟩⟩
      · refine aw_aload_n C dX9_readsItem_58 (i := 0) rfl rfl ?_
        refine aw_iload_n C dX9_readsItem_59 (i := 2) rfl rfl ?_
        refine aw_V1x (k := 0) C dX9_readsItem_60 cv_X9_73 (by decide) rfl rfl rfl (cm_readsWire hI (by omega) hl hb hrw) ⟨Nat.le_of_ble_eq_true rfl, Nat.le_of_ble_eq_true rfl⟩ (Nat.le_of_ble_eq_true rfl) (fun x g hp => ?_)
        refine aw_zret C hr dX9_readsItem_63 (by rcases hp with ⟨-, rfl, -⟩ | ⟨-, rfl, -⟩ <;> exact bi_nar) ?_
        have g9 : (decide (i0 = 0) = decide ((lt0 len text i0) = 115)) := by rw [decide_eq_false (show ¬ i0 = 0 by omega), decide_eq_false h13]
        have e9 : (itO (lt0 len text) rwi i0) = wrO (lt0 len text) rwi i0 := by unfold itO; rw [if_pos g9, if_neg h13, if_pos h55]
        rcases hp with ⟨a1, rfl, v, rfl⟩ | ⟨a1, rfl, v, e8, r8, rfl⟩
        · refine ⟨_, rfl, Or.inl ⟨e9.trans a1, rfl, v, ?_⟩⟩
          unfold itS itW itE itR
          rw [if_neg h13, if_pos h55, if_pos h55, if_neg h13, if_pos h55]
        · exact ⟨_, rfl, Or.inr ⟨e9.trans a1, rfl, _, _, _, _, _, rfl⟩⟩
    · refine aw_iconst C dX9_readsItem_16 ki_1 ?_
      refine aw_goto (tgt := 21) C dX9_readsItem_17 (by decide) ?_
      refine aw_icmp_eq_n (tgt := 26) C dX9_readsItem_21 (by decide) (by omega) (by omega) (fun h21 => absurd h21 (by decide)) (fun h21 => ?_)
      refine aw_iconst C dX9_readsItem_24 ki_0 ?_
      refine aw_zret C hr dX9_readsItem_25 (by decide) ?_
      have g9 : ¬ (decide (i0 = 0) = decide ((lt0 len text i0) = 115)) := by rw [decide_eq_false (show ¬ i0 = 0 by omega), decide_eq_true h13]; decide
      exact ⟨_, rfl, Or.inr ⟨by unfold itO; rw [if_neg g9], rfl, _, _, _, _, _, rfl⟩⟩
  · refine aw_iconst C dX9_readsItem_5 ki_1 ?_
    refine aw_goto (tgt := 10) C dX9_readsItem_6 (by decide) ?_
    refine aw_iload_n C dX9_readsItem_10 (i := 1) rfl rfl ?_
    refine aw_bipush C dX9_readsItem_11 kb_115 ?_
    refine aw_icmp_ne_n (tgt := 20) C dX9_readsItem_13 (by decide) (by omega) (by omega) (fun h13 => ?_) (fun h13 => ?_)
    · refine aw_iconst C dX9_readsItem_20 ki_0 ?_
      refine aw_icmp_eq_n (tgt := 26) C dX9_readsItem_21 (by decide) (by omega) (by omega) (fun h21 => absurd h21 (by decide)) (fun h21 => ?_)
      refine aw_iconst C dX9_readsItem_24 ki_0 ?_
      refine aw_zret C hr dX9_readsItem_25 (by decide) ?_
      have g9 : ¬ (decide (i0 = 0) = decide ((lt0 len text i0) = 115)) := by rw [decide_eq_true (show i0 = 0 by omega), decide_eq_false h13]; decide
      exact ⟨_, rfl, Or.inr ⟨by unfold itO; rw [if_neg g9], rfl, _, _, _, _, _, rfl⟩⟩
    · refine aw_iconst C dX9_readsItem_16 ki_1 ?_
      refine aw_goto (tgt := 21) C dX9_readsItem_17 (by decide) ?_
      refine aw_icmp_eq_n (tgt := 26) C dX9_readsItem_21 (by decide) (by omega) (by omega) (fun h21 => ?_) (fun h21 => absurd rfl h21)
      refine aw_iload_n C dX9_readsItem_26 (i := 1) rfl rfl ?_
      refine aw_bipush C dX9_readsItem_27 kb_115 ?_
      refine aw_icmp_ne_n (tgt := 52) C dX9_readsItem_29 (by decide) (by omega) (by omega) (fun h29 => absurd h13 h29) (fun h29 => ?_)
      refine aw_aload_n C dX9_readsItem_32 (i := 0) rfl rfl ?_
      refine aw_iload_n C dX9_readsItem_33 (i := 2) rfl rfl ?_
      refine aw_bipush C dX9_readsItem_34 kb_8 ?_
      refine aw_bipush C dX9_readsItem_36 kb_40 ?_
      refine aw_V3i (k := 0) C dX9_readsItem_38 cv_X9_67 (by decide) rfl rfl rfl (cm_number hI (by omega) hl hb) ⟨Nat.le_of_ble_eq_true rfl, Nat.le_of_ble_eq_true rfl⟩ (Nat.le_of_ble_eq_true rfl) ?_
      refine aw_istore_n (lv' := [(0, _), (1, _), (2, _), (3, _)]) C dX9_readsItem_41 (i := 3) rfl (Nat.le_of_ble_eq_true rfl) rfl ?_
      refine aw_aload_n C dX9_readsItem_42 (i := 0) rfl rfl ?_
      refine aw_aload_n C dX9_readsItem_43 (i := 0) rfl rfl ?_
      refine aw_get (k := 0) C dX9_readsItem_44 fl_X9_44 (by decide) rfl rfl ?_
      refine aw_put (k := 0) C dX9_readsItem_47 fp_X9_70 (by decide) rfl rfl rfl (Nat.le_of_ble_eq_true rfl) md_p_rsp ?_
      refine aw_iload_n C dX9_readsItem_50 (i := 3) rfl rfl ?_
      refine aw_zret C hr dX9_readsItem_51 (bi_nar) ?_
      have g9 : (decide (i0 = 0) = decide ((lt0 len text i0) = 115)) := by rw [decide_eq_true (show i0 = 0 by omega), decide_eq_true h13]
      have e9 : (itO (lt0 len text) rwi i0) = nmO (lt0 len text) (i0 + 1) (nI 8) (nI 40) := by unfold itO; rw [if_pos g9, if_pos h13]
      cases hn : nmO (lt0 len text) (i0 + 1) (nI 8) (nI 40) with
      | false => exact ⟨_, rfl, Or.inr ⟨e9.trans hn, rfl, _, _, _, _, _, rfl⟩⟩
      | true =>
        have w9 : ¬ (lt0 len text i0) = 119 := by rw [h13]; decide
        refine ⟨_, rfl, Or.inl ⟨e9.trans hn, rfl, nmV (lt0 len text) (i0 + 1), ?_⟩⟩
        unfold itS itW itE itR
        rw [if_pos h13, if_neg w9, if_neg w9, if_pos h13]
set_option maxRecDepth 20000 in
/-- reads, its loop -/
theorem cm_reads_l {l : Launch} {D : va_G} {cy : Nat → ClassId} {z : Nat → Nat} {q : Nat → Nat} {p : Program} {e : Env} {s : State} {m : MethodId} {args : Array Value} {below : List Frame} {meth : Method} {c : Code} (hI : wI 9 q) (C : Cx p s m args meth c cX9_reads 2 RX9 D cy z 9 q) (hr : meth.sig.returnType = (some .int)) {len span wires chg : Nat} {text : Nat → Nat} {h was eyes fw bars ways : Nat → Int32} (hl : len ≤ 200) (hb : ∀ j, text j ≤ 1000) : ∀ (d : Nat) (i : Nat) (sp : Nat) (wn : Nat) (val : Nat) (ends : Nat) (rd : Nat → Int32) (R : Nat → Int32), len - i < d → (i ≤ 300) → (wn ≤ 8) → (∀ j, j < 45 → rd j = R j) → AW p l e { frames := 4, cells := 0, slots := 0, locals := 91 } s m args below meth c D 9 q 2 (MQ below (Qg D 9 q (PX (fun x g => x = (rdL (lt0 len text) len d i sp wn R).1 ∧ ∃ s9 w9 v e9 r9, g = (mdC cy q len span wires chg s9 w9 v e9 text h was r9 eyes fw bars ways) ∧ ((rdL (lt0 len text) len d i sp wn R).1 = -4 → s9 = (rdL (lt0 len text) len d i sp wn R).2.1 ∧ w9 = (rdL (lt0 len text) len d i sp wn R).2.2.1 ∧ ∀ j, j < 45 → r9 j = (rdL (lt0 len text) len d i sp wn R).2.2.2 j))) (wA 9 q s.heap.size)) args s 0 0 (wA 9 q s.heap.size)) (mdC cy q len span wires chg sp wn val ends text h was rd eyes fw bars ways) [(0, .ref (q 0)), (1, .int (nI i))] 58 [] := by
  intro d
  induction d with
  | zero => intro i sp wn val ends rd R hd; exact absurd hd (Nat.not_lt_zero _)
  | succ d ih =>
    intro i sp wn val ends rd R hd iv0 iv1 iv2
    refine aw_iload_n C dX9_reads_58 (i := 1) rfl rfl ?_
    refine aw_aload_n C dX9_reads_59 (i := 0) rfl rfl ?_
    refine aw_get (k := 0) C dX9_reads_60 fl_X9_41 (by decide) rfl rfl ?_
    refine aw_icmp_ge_n (tgt := 107) C dX9_reads_63 (by decide) (by omega) (by omega) (fun h63 => ?_) (fun h63 => ?_)
    · refine aw_bipush C dX9_reads_107 kb_m4 ?_
      refine aw_iret C hr dX9_reads_109 ?_
      have e2 : rdL (lt0 len text) len (d + 1) i sp wn R = (-4, sp, wn, R) := by unfold rdL; rw [if_neg (by omega)]
      rw [e2]
      exact ⟨_, rfl, rfl, _, _, _, _, _, rfl, fun _ => ⟨rfl, rfl, iv2⟩⟩
    · refine aw_aload_n C dX9_reads_66 (i := 0) rfl rfl ?_
      refine aw_aload_n C dX9_reads_67 (i := 0) rfl rfl ?_
      refine aw_get (k := 0) C dX9_reads_68 fl_X9_7 (by decide) rfl rfl ?_
      refine aw_iload_n C dX9_reads_71 (i := 1) rfl rfl ?_
      refine aw_iald (k := 1) C dX9_reads_72 (by decide) (rfl) (rfl) (by omega) (by decide) (show nI (text i) = nI (lt0 len text i) by unfold lt0; rw [if_pos h63]) ?_
      refine aw_iload_n C dX9_reads_73 (i := 1) rfl rfl ?_
      refine aw_iconst C dX9_reads_74 ki_1 ?_
      refine aw_iadd_n C dX9_reads_75 ?_
      refine aw_V2x (k := 0) C dX9_reads_76 cv_X9_80 (by decide) rfl rfl rfl (cm_readsItem hI (by omega) hl hb iv1) ⟨Nat.le_of_ble_eq_true rfl, Nat.le_of_ble_eq_true rfl⟩ (Nat.le_of_ble_eq_true rfl) (fun x g hp => ?_)
      refine aw_if_eq (tgt := 95) C dX9_reads_79 (by decide) (fun h79 => ?_) (fun h79 => ?_)
      · refine aw_iload_n C dX9_reads_95 (i := 1) rfl rfl ?_
        refine aw_iret C hr dX9_reads_96 ?_
        obtain ⟨a1, s9, w9, v, e9, r9, rfl⟩ : itO (lt0 len text) wn i = false ∧ ∃ s9 w9 v e9 r9, g = (mdC cy q len span wires chg s9 w9 v e9 text h was r9 eyes fw bars ways) := by
          rcases hp with ⟨a1, rfl, _⟩ | ⟨a1, rfl, hp⟩
          · exact absurd h79 (by decide)
          · exact ⟨a1, hp⟩
        have e2 : rdL (lt0 len text) len (d + 1) i sp wn R = (nI i, sp, wn, R) := by unfold rdL; rw [if_pos h63, if_neg (by rw [a1]; decide)]
        rw [e2]
        exact ⟨_, rfl, rfl, _, _, _, _, _, rfl, fun h9 => absurd h9 (nI_m4 (by omega))⟩
      · obtain ⟨a1, v, rfl⟩ : itO (lt0 len text) wn i = true ∧ ∃ v, g = (mdC cy q len span wires chg (itS (lt0 len text) sp i) (itW (lt0 len text) wn i) v (itE (lt0 len text) i) text h was (itR (lt0 len text) wn rd i) eyes fw bars ways) := by
          rcases hp with ⟨a1, rfl, hp⟩ | ⟨a1, rfl, _⟩
          · exact ⟨a1, hp⟩
          · exact absurd rfl h79
        have hie := itE_le (lt0 len text) i
        have hlb := lt0_b (len := len) (p := itE (lt0 len text) i) hb
        refine aw_aload_n C dX9_reads_82 (i := 0) rfl rfl ?_
        refine aw_aload_n C dX9_reads_83 (i := 0) rfl rfl ?_
        refine aw_get (k := 0) C dX9_reads_84 fl_X9_51 (by decide) rfl rfl ?_
        refine aw_V1i (k := 0) C dX9_reads_87 cv_X9_47 (by decide) rfl rfl rfl (cm_letterAt hI (by omega) hl) ⟨Nat.le_of_ble_eq_true rfl, Nat.le_of_ble_eq_true rfl⟩ (Nat.le_of_ble_eq_true rfl) ?_
        refine aw_bipush C dX9_reads_90 kb_59 ?_
        refine aw_icmp_eq_n (tgt := 97) C dX9_reads_92 (by decide) (by omega) (by omega) (fun h92 => ?_) (fun h92 => ?_)
        · refine aw_aload_n C dX9_reads_97 (i := 0) rfl rfl ?_
          refine aw_get (k := 0) C dX9_reads_98 fl_X9_51 (by decide) rfl rfl ?_
          refine aw_iconst C dX9_reads_101 ki_1 ?_
          refine aw_iadd_n C dX9_reads_102 ?_
          refine aw_istore_n (lv' := [(0, _), (1, _)]) C dX9_reads_103 (i := 1) rfl (Nat.le_of_ble_eq_true rfl) rfl ?_
          refine aw_goto (tgt := 58) C dX9_reads_104 (by decide) ?_
          have e2 : rdL (lt0 len text) len (d + 1) i sp wn R = rdL (lt0 len text) len d (itE (lt0 len text) i + 1) (itS (lt0 len text) sp i) (itW (lt0 len text) wn i) (itR (lt0 len text) wn R i) := by show (if _ then _ else _) = _; rw [if_pos h63, if_pos a1, if_pos h92]
          rw [e2]
          exact ih _ _ _ _ _ _ _ (by omega) (by omega) (itW_le a1 iv1) (itR_cg iv2)
        · refine aw_iload_n C dX9_reads_95 (i := 1) rfl rfl ?_
          refine aw_iret C hr dX9_reads_96 ?_
          have e2 : rdL (lt0 len text) len (d + 1) i sp wn R = (nI i, sp, wn, R) := by unfold rdL; rw [if_pos h63, if_pos a1, if_neg h92]
          rw [e2]
          exact ⟨_, rfl, rfl, _, _, _, _, _, rfl, fun h9 => absurd h9 (nI_m4 (by omega))⟩
set_option maxRecDepth 20000 in
/-- reads, its loop -/
theorem cm_reads_0 {l : Launch} {D : va_G} {cy : Nat → ClassId} {z : Nat → Nat} {q : Nat → Nat} {p : Program} {e : Env} {s : State} {m : MethodId} {args : Array Value} {below : List Frame} {meth : Method} {c : Code} {Q : State → Prop} (hI : wI 9 q) (C : Cx p s m args meth c cX9_reads 2 RX9 D cy z 9 q) (hr : meth.sig.returnType = (some .int)) {len span wires chg rsp rwi val ends : Nat} {text : Nat → Nat} {h was rd eyes fw bars ways : Nat → Int32} (K : AW p l e { frames := 4, cells := 0, slots := 0, locals := 91 } s m args below meth c D 9 q 2 Q (mdC cy q len span wires chg rsp rwi val ends text h was (cpG (fun _ => nI 0) rd 45) eyes fw bars ways) [(0, .ref (q 0)), (1, .int (nI 45))] 31 []) : ∀ (d : Nat) (k : Nat), 45 - k < d → (k ≤ 45) → AW p l e { frames := 4, cells := 0, slots := 0, locals := 91 } s m args below meth c D 9 q 2 Q (mdC cy q len span wires chg rsp rwi val ends text h was (cpG (fun _ => nI 0) rd k) eyes fw bars ways) [(0, .ref (q 0)), (1, .int (nI k))] 12 [] := by
  intro d
  induction d with
  | zero => intro k hd; exact absurd hd (Nat.not_lt_zero _)
  | succ d ih =>
    intro k hd iv0
    refine aw_iload_n C dX9_reads_12 (i := 1) rfl rfl ?_
    refine aw_bipush C dX9_reads_13 kb_45 ?_
    refine aw_icmp_ge_n (tgt := 31) C dX9_reads_15 (by decide) (by omega) (by omega) (fun h15 => ?_) (fun h15 => ?_)
    · obtain rfl : k = 45 := by omega
      exact K
    · refine aw_aload_n C dX9_reads_18 (i := 0) rfl rfl ?_
      refine aw_get (k := 0) C dX9_reads_19 fl_X9_19 (by decide) rfl rfl ?_
      refine aw_iload_n C dX9_reads_22 (i := 1) rfl rfl ?_
      refine aw_iconst C dX9_reads_23 ki_0 ?_
      refine aw_iast (k := 4) C dX9_reads_24 (by decide) (rfl) (rfl) (by omega) (by decide) (md_a_rd) ?_
      refine aw_iinc_n (lv' := [(0, _), (1, _)]) C dX9_reads_25 rfl ki_1 (Nat.le_of_ble_eq_true rfl) rfl ?_
      refine aw_goto (tgt := 12) C dX9_reads_28 (by decide) ?_
      rw [cpG_s (fun _ => nI 0) rd k]
      exact ih (k + 1) (by omega) (by omega)
set_option maxRecDepth 20000 in
/-- reads -/
theorem cm_reads {l : Launch} {D : va_G} {cy : Nat → ClassId} {z : Nat → Nat} {q : Nat → Nat} (hI : wI 9 q) {len span wires chg rsp rwi val ends : Nat} {text : Nat → Nat} {h was rd eyes fw bars ways : Nat → Int32} (hl : len ≤ 200) (hb : ∀ j, text j ≤ 1000) : Ct l yX9_reads cX9_reads 2 (some .int) 4 91 D cy z 9 q [.ref (q 0)] (mdC cy q len span wires chg rsp rwi val ends text h was rd eyes fw bars ways) (PX (fun x g => x = (rdT len text).1 ∧ ∃ s9 w9 v e9 r9, g = (mdC cy q len span wires chg s9 w9 v e9 text h was r9 eyes fw bars ways) ∧ ((rdT len text).1 = -4 → s9 = (rdT len text).2.1 ∧ w9 = (rdT len text).2.2.1 ∧ ∀ j, j < 45 → r9 j = (rdT len text).2.2.2 j))) := by
  refine Ct.of (own := RX9) (by decide) rfl hI (Nat.le_of_ble_eq_true rfl) ?_
  intro p e s m args below meth c C hr
  refine aw_lv (lv' := [(0, .ref (q 0))]) (fun x hx => hx) ?_
  refine aw_aload_n C dX9_reads_0 (i := 0) rfl rfl ?_
  refine aw_iconst C dX9_reads_1 ki_0 ?_
  refine aw_put (k := 0) C dX9_reads_2 fp_X9_70 (by decide) rfl rfl rfl (Nat.le_of_ble_eq_true rfl) md_p_rsp ?_
  refine aw_aload_n C dX9_reads_5 (i := 0) rfl rfl ?_
  refine aw_iconst C dX9_reads_6 ki_0 ?_
  refine aw_put (k := 0) C dX9_reads_7 fp_X9_58 (by decide) rfl rfl rfl (Nat.le_of_ble_eq_true rfl) md_p_rwi ?_
  refine aw_iconst C dX9_reads_10 ki_0 ?_
  refine aw_istore_n (lv' := [(0, _), (1, _)]) C dX9_reads_11 (i := 1) rfl (Nat.le_of_ble_eq_true rfl) rfl ?_
  refine aw_fq (f' := (mdC cy q len span wires chg 0 0 val ends text h was (cpG (fun _ => nI 0) rd 0) eyes fw bars ways)) (by rw [cpG_0]) ?_
  refine cm_reads_0 hI C hr ?_ 46 0 (by omega) (by omega)
  refine aw_aload_n C dX9_reads_31 (i := 0) rfl rfl ?_
  refine aw_get (k := 0) C dX9_reads_32 fl_X9_19 (by decide) rfl rfl ?_
  refine aw_bipush C dX9_reads_35 kb_40 ?_
  refine aw_iconst C dX9_reads_37 ki_2 ?_
  refine aw_iast (k := 4) C dX9_reads_38 (by decide) (rfl) (rfl) (by omega) (by decide) (md_a_rd) ?_
  refine aw_aload_n C dX9_reads_39 (i := 0) rfl rfl ?_
  refine aw_get (k := 0) C dX9_reads_40 fl_X9_19 (by decide) rfl rfl ?_
  refine aw_bipush C dX9_reads_43 kb_41 ?_
  refine aw_bipush C dX9_reads_45 kb_6 ?_
  refine aw_iast (k := 4) C dX9_reads_47 (by decide) (rfl) (rfl) (by omega) (by decide) (md_a_rd) ?_
  refine aw_aload_n C dX9_reads_48 (i := 0) rfl rfl ?_
  refine aw_get (k := 0) C dX9_reads_49 fl_X9_19 (by decide) rfl rfl ?_
  refine aw_bipush C dX9_reads_52 kb_42 ?_
  refine aw_iconst C dX9_reads_54 ki_2 ?_
  refine aw_iast (k := 4) C dX9_reads_55 (by decide) (rfl) (rfl) (by omega) (by decide) (md_a_rd) ?_
  refine aw_iconst C dX9_reads_56 ki_0 ?_
  refine aw_istore_n (lv' := [(0, _), (1, _)]) C dX9_reads_57 (i := 1) rfl (Nat.le_of_ble_eq_true rfl) rfl ?_
  exact cm_reads_l hI C hr hl hb (len + 1) 0 0 0 _ _ _ rdZ (by omega) (by omega) (by omega) (rdZ_cg rd)
set_option maxRecDepth 20000 in
/-- fault -/
theorem cm_fault {l : Launch} {D : va_G} {cy : Nat → ClassId} {z : Nat → Nat} {q : Nat → Nat} (hI : wI 9 q) {len span wires chg rsp rwi val ends : Nat} {text : Nat → Nat} {h was rd eyes fw bars ways : Nat → Int32} (hl : len ≤ 200) (hb : ∀ j, text j ≤ 1000) : Ct l yX9_fault cX9_fault 1 (some .int) 5 112 D cy z 9 q [.ref (q 0)] (mdC cy q len span wires chg rsp rwi val ends text h was rd eyes fw bars ways) (PO cy q (opFault len text, (len, span, wires, chg, text, h, was, eyes))) := by
  refine Ct.of (own := RX9) (by decide) rfl hI (Nat.le_of_ble_eq_true rfl) ?_
  intro p e s m args below meth c C hr
  refine aw_lv (lv' := [(0, .ref (q 0))]) (fun x hx => hx) ?_
  refine aw_aload_n C dX9_fault_0 (i := 0) rfl rfl ?_
  refine aw_V0x (k := 0) C dX9_fault_1 cv_X9_84 (by decide) rfl rfl rfl (cm_reads hI hl hb) ⟨Nat.le_of_ble_eq_true rfl, Nat.le_of_ble_eq_true rfl⟩ (Nat.le_of_ble_eq_true rfl) (fun x g hp => ?_)
  obtain ⟨rfl, s9, w9, v, e9, r9, rfl, hp⟩ := hp
  refine aw_iret C hr dX9_fault_4 ?_
  exact PO.mk rfl
set_option maxRecDepth 20000 in
/-- lay, its loop -/
theorem cm_lay_l {l : Launch} {D : va_G} {cy : Nat → ClassId} {z : Nat → Nat} {q : Nat → Nat} {p : Program} {e : Env} {s : State} {m : MethodId} {args : Array Value} {below : List Frame} {meth : Method} {c : Code} {Q : State → Prop} (hI : wI 9 q) (C : Cx p s m args meth c cX9_lay 2 RX9 D cy z 9 q) (hr : meth.sig.returnType = (some .int)) {len span wires chg rsp rwi val ends : Nat} {text : Nat → Nat} {h was rd eyes fw bars ways : Nat → Int32} (K : AW p l e { frames := 5, cells := 0, slots := 0, locals := 112 } s m args below meth c D 9 q 2 Q (mdC cy q len span wires chg rsp rwi val ends text (cpG rd h 45) was rd eyes fw bars ways) [(0, .ref (q 0)), (1, .int (nI 45))] 61 []) : ∀ (d : Nat) (k : Nat), 45 - k < d → (k ≤ 45) → AW p l e { frames := 5, cells := 0, slots := 0, locals := 112 } s m args below meth c D 9 q 2 Q (mdC cy q len span wires chg rsp rwi val ends text (cpG rd h k) was rd eyes fw bars ways) [(0, .ref (q 0)), (1, .int (nI k))] 37 [] := by
  intro d
  induction d with
  | zero => intro k hd; exact absurd hd (Nat.not_lt_zero _)
  | succ d ih =>
    intro k hd iv0
    refine aw_iload_n C dX9_lay_37 (i := 1) rfl rfl ?_
    refine aw_bipush C dX9_lay_38 kb_45 ?_
    refine aw_icmp_ge_n (tgt := 61) C dX9_lay_40 (by decide) (by omega) (by omega) (fun h40 => ?_) (fun h40 => ?_)
    · obtain rfl : k = 45 := by omega
      exact K
    · refine aw_aload_n C dX9_lay_43 (i := 0) rfl rfl ?_
      refine aw_get (k := 0) C dX9_lay_44 fl_X9_13 (by decide) rfl rfl ?_
      refine aw_iload_n C dX9_lay_47 (i := 1) rfl rfl ?_
      refine aw_aload_n C dX9_lay_48 (i := 0) rfl rfl ?_
      refine aw_get (k := 0) C dX9_lay_49 fl_X9_19 (by decide) rfl rfl ?_
      refine aw_iload_n C dX9_lay_52 (i := 1) rfl rfl ?_
      refine aw_iald (k := 4) C dX9_lay_53 (by decide) (rfl) (rfl) (by omega) (by decide) (rfl) ?_
      refine aw_iast (k := 2) C dX9_lay_54 (by decide) (rfl) (rfl) (by omega) (by decide) (md_a_h) ?_
      refine aw_iinc_n (lv' := [(0, _), (1, _)]) C dX9_lay_55 rfl ki_1 (Nat.le_of_ble_eq_true rfl) rfl ?_
      refine aw_goto (tgt := 37) C dX9_lay_58 (by decide) ?_
      rw [cpG_s rd h k]
      exact ih (k + 1) (by omega) (by omega)
set_option maxRecDepth 20000 in
/-- lay -/
theorem cm_lay {l : Launch} {D : va_G} {cy : Nat → ClassId} {z : Nat → Nat} {q : Nat → Nat} (hI : wI 9 q) {len span wires chg rsp rwi val ends : Nat} {text : Nat → Nat} {h was rd eyes fw bars ways : Nat → Int32} (hl : len ≤ 200) (hb : ∀ j, text j ≤ 1000) : Ct l yX9_lay cX9_lay 2 (some .int) 5 112 D cy z 9 q [.ref (q 0)] (mdC cy q len span wires chg rsp rwi val ends text h was rd eyes fw bars ways) (PO cy q (opLay len span wires chg text h was eyes)) := by
  refine Ct.of (own := RX9) (by decide) rfl hI (Nat.le_of_ble_eq_true rfl) ?_
  intro p e s m args below meth c C hr
  refine aw_lv (lv' := [(0, .ref (q 0))]) (fun x hx => hx) ?_
  refine aw_aload_n C dX9_lay_0 (i := 0) rfl rfl ?_
  refine aw_V0x (k := 0) C dX9_lay_1 cv_X9_84 (by decide) rfl rfl rfl (cm_reads hI hl hb) ⟨Nat.le_of_ble_eq_true rfl, Nat.le_of_ble_eq_true rfl⟩ (Nat.le_of_ble_eq_true rfl) (fun x g hp => ?_)
  obtain ⟨rfl, s9, w9, v, e9, r9, rfl, hp⟩ := hp
  refine aw_bipush C dX9_lay_4 kb_m4 ?_
  refine aw_icmp_ne (tgt := 16) C dX9_lay_6 (by decide) (fun h6 => ?_) (fun h6 => ?_)
  · refine aw_bipush C dX9_lay_16 kb_m2 ?_
    refine aw_iret C hr dX9_lay_18 ?_
    exact PO.mk (by unfold opLay; rw [if_neg h6])
  · obtain ⟨rfl, rfl, hr9⟩ := hp h6
    have hsp := rdT_sp len text
    refine aw_aload_n C dX9_lay_9 (i := 0) rfl rfl ?_
    refine aw_get (k := 0) C dX9_lay_10 fl_X9_70 (by decide) rfl rfl ?_
    refine aw_if_ne_n (tgt := 19) C dX9_lay_13 (by decide) (by omega) (fun h13 => ?_) (fun h13 => ?_)
    · refine aw_aload_n C dX9_lay_19 (i := 0) rfl rfl ?_
      refine aw_aload_n C dX9_lay_20 (i := 0) rfl rfl ?_
      refine aw_get (k := 0) C dX9_lay_21 fl_X9_70 (by decide) rfl rfl ?_
      refine aw_put (k := 0) C dX9_lay_24 fp_X9_34 (by decide) rfl rfl rfl (Nat.le_of_ble_eq_true rfl) md_p_span ?_
      refine aw_aload_n C dX9_lay_27 (i := 0) rfl rfl ?_
      refine aw_aload_n C dX9_lay_28 (i := 0) rfl rfl ?_
      refine aw_get (k := 0) C dX9_lay_29 fl_X9_58 (by decide) rfl rfl ?_
      refine aw_put (k := 0) C dX9_lay_32 fp_X9_38 (by decide) rfl rfl rfl (Nat.le_of_ble_eq_true rfl) md_p_wires ?_
      refine aw_iconst C dX9_lay_35 ki_0 ?_
      refine aw_istore_n (lv' := [(0, _), (1, _)]) C dX9_lay_36 (i := 1) rfl (Nat.le_of_ble_eq_true rfl) rfl ?_
      refine aw_fq (f' := (mdC cy q len (rdT len text).2.1 (rdT len text).2.2.1 chg (rdT len text).2.1 (rdT len text).2.2.1 v e9 text (cpG r9 h 0) was r9 eyes fw bars ways)) (by rw [cpG_0]) ?_
      refine cm_lay_l hI C hr ?_ 46 0 (by omega) (by omega)
      refine aw_aload_n C dX9_lay_61 (i := 0) rfl rfl ?_
      refine aw_iconst C dX9_lay_62 ki_0 ?_
      refine aw_put (k := 0) C dX9_lay_63 fp_X9_88 (by decide) rfl rfl rfl (Nat.le_of_ble_eq_true rfl) md_p_chg ?_
      refine aw_aload_n C dX9_lay_66 (i := 0) rfl rfl ?_
      refine aw_get (k := 0) C dX9_lay_67 fl_X9_22 (by decide) rfl rfl ?_
      refine aw_iconst C dX9_lay_70 ki_0 ?_
      refine aw_iconst C dX9_lay_71 ki_0 ?_
      refine aw_iast (k := 5) C dX9_lay_72 (by decide) (rfl) (rfl) (by omega) (by decide) (md_a_eyes) ?_
      refine aw_aload_n C dX9_lay_73 (i := 0) rfl rfl ?_
      refine aw_get (k := 0) C dX9_lay_74 fl_X9_22 (by decide) rfl rfl ?_
      refine aw_iconst C dX9_lay_77 ki_5 ?_
      refine aw_iconst C dX9_lay_78 ki_0 ?_
      refine aw_iast (k := 5) C dX9_lay_79 (by decide) (rfl) (rfl) (by omega) (by decide) (md_a_eyes) ?_
      refine aw_aload_n C dX9_lay_80 (i := 0) rfl rfl ?_
      refine aw_get (k := 0) C dX9_lay_81 fl_X9_38 (by decide) rfl rfl ?_
      refine aw_iret C hr dX9_lay_84 ?_
      exact PO.mk (by unfold opLay eyF; rw [if_pos h6, if_neg (Nat.ne_of_gt h13), cpG_cg hr9])
    · refine aw_bipush C dX9_lay_16 kb_m2 ?_
      refine aw_iret C hr dX9_lay_18 ?_
      exact PO.mk (by unfold opLay; rw [if_pos h6, if_pos h13])
