set_option maxHeartbeats 4000000 in
set_option maxRecDepth 100000 in
theorem k_X3_type {X : Cx} {l : Launch} {σ : Hp} {Q : Option Value → Hp → Prop} {x : Int32} (hL : LVs X) (hw : CW σ) (hB : ¬ (¬ x < 0 ∧ x ≤ nI 255) → Q (some (.int (-1))) σ) (hF : (¬ x < 0 ∧ x ≤ nI 255) → ¬ tL σ < 80 → Q (some (.int (-3))) σ) (hO : (¬ x < 0 ∧ x ≤ nI 255) → tL σ < 80 → Q (some (.int (nI (tL σ + 1)))) (setR σ 3 0 (up2 (up2 (σ 3 0) 1 (tL σ) (vp_nar .char (x.toUInt32 % 65536).toInt32)) 0 1 (nI (tL σ + 1))))) : Con X l yX3_type cX3_type 2 (some .int) 2 [.ref (adr X 0 0 0), .int x] σ Q := by
  refine Con_of [some (.ref (adr X 0 0 0)), some (.int x)] (by decide) rfl (Nat.le_of_ble_eq_true rfl) ?_
  have hL0 := hL
  obtain ⟨hv0, hvA, hv2, hv3⟩ := hL
  have hv1 := hvA 0 (by decide)
  have hvt := hvA 1 (by decide)
  have hl := hw.2.2.2.1.1
  have hl8 := hw.2.2.2.1.2
  have e1 : σ 3 0 0 1 + nI 1 = nI (tL σ + 1) := by rw [hl, nI_add]
  refine T_iload_n dX3_type_0 rfl rfl ?_
  refine T_if_lt 11 dX3_type_1 (by decide) (fun h1 => ?_) (fun h1 => ?_)
  · refine T_iconst (v := -1) dX3_type_11 rfl ?_
    refine T_iret rfl dX3_type_12 ?_
    refine hB (fun q => ?_)
    first | exact q.1 h1 | exact h8 q.2
  · refine T_iload_n dX3_type_4 rfl rfl ?_
    refine T_sipush (v := nI 255) dX3_type_5 (by decide) ?_
    refine T_icmp_le 13 dX3_type_8 (by decide) (fun h8 => ?_) (fun h8 => ?_)
    · refine T_aload_n dX3_type_13 rfl rfl ?_
      refine T_g0 hv0 3 (by decide) fl_X3_29 rfl dX3_type_14 ?_
      refine T_g3 hv3 1 (by decide) fl_X3_55 rfl dX3_type_17 ?_
      refine T_bipush (v := nI 80) dX3_type_20 (by decide) ?_
      refine T_icmp_lt 28 dX3_type_22 (by decide) (fun h22 => ?_) (fun h22 => ?_)
      · have hlt : tL σ < 80 := Classical.byContradiction fun z => absurd (hl ▸ h22) (nI_nlt (by omega) (by omega))
        refine T_aload_n dX3_type_28 rfl rfl ?_
        refine T_g0 hv0 3 (by decide) fl_X3_29 rfl dX3_type_29 ?_
        refine T_iload_n dX3_type_32 rfl rfl ?_
        refine T_i2c dX3_type_33 rfl ?_
        refine T_vv (Rc_of (hv3 0 (by decide)) rfl rfl) (con_un rfl (k_X2_add hv3 hw.2.2.2.1.1 hlt)) ml_X3_58 im_yX2_add se_RX2_yX2_add ini_RX2 co_yX2_add rfl de_X2_add (by decide) (by decide) rfl (Nat.le_of_ble_eq_true rfl) dX3_type_34 ?_
        rw [e1]
        refine T_aload_n dX3_type_37 rfl rfl ?_
        refine T_g0 hv0 3 (by decide) fl_X3_29 rfl dX3_type_38 ?_
        refine T_g3 hv3 1 (by decide) fl_X3_55 rfl dX3_type_41 ?_
        refine T_iret rfl dX3_type_44 ?_
        exact hO ⟨h1, h8⟩ hlt
      · refine T_bipush (v := -3) dX3_type_25 (by decide) ?_
        refine T_iret rfl dX3_type_27 ?_
        exact hF ⟨h1, h8⟩ (fun z => h22 (by rw [hl]; exact nI_lt z (by omega)))
    · refine T_iconst (v := -1) dX3_type_11 rfl ?_
      refine T_iret rfl dX3_type_12 ?_
      refine hB (fun q => ?_)
      first | exact q.1 h1 | exact h8 q.2
set_option maxHeartbeats 4000000 in
set_option maxRecDepth 100000 in
theorem k_X3_clear {X : Cx} {l : Launch} {σ : Hp} (hL : LVs X) : Con X l yX3_clear cX3_clear 1 (some .int) 1 [.ref (adr X 0 0 0)] σ (Ex (some (.int (σ 3 0 0 1))) (setR σ 3 0 (up2 (σ 3 0) 0 1 (nI 0)))) := by
  refine Con_of [some (.ref (adr X 0 0 0))] (by decide) rfl (Nat.le_of_ble_eq_true rfl) ?_
  obtain ⟨hv0, hvA, hv2, hv3⟩ := hL
  have hv1 := hvA 0 (by decide)
  have hvt := hvA 1 (by decide)
  refine T_aload_n dX3_clear_0 rfl rfl ?_
  refine T_g0 hv0 3 (by decide) fl_X3_29 rfl dX3_clear_1 ?_
  refine T_vi (Rc_of (hv3 0 (by decide)) rfl rfl) (con_un rfl (k_X2_drop hv3)) ml_X3_62 im_yX2_drop se_RX2_yX2_drop ini_RX2 co_yX2_drop rfl de_X2_drop (by decide) (by decide) rfl (Nat.le_of_ble_eq_true rfl) dX3_clear_4 ?_
  refine T_iret rfl dX3_clear_7 ?_
  exact ⟨rfl, rfl⟩
set_option maxHeartbeats 4000000 in
set_option maxRecDepth 100000 in
theorem k_X3_accepts {X : Cx} {l : Launch} {σ : Hp} {Q : Option Value → Hp → Prop} {c w : Int32} (hL : LVs X) (hw : CW σ) (hB : ¬ (isCp (σ 1 0) c ∧ ¬ w < nI 1 ∧ w ≤ nI 9) → Q (some (.int (-1))) σ) (hF : (isCp (σ 1 0) c ∧ ¬ w < nI 1 ∧ w ≤ nI 9) → ¬ nW (σ 1 0) < 24 → Q (some (.int (-3))) σ) (hO : ∀ i, i < nC (σ 1 0) → c = nI i → ¬ w < nI 1 → w ≤ nI 9 → nW (σ 1 0) < 24 → Q (some (.int (nI (accS (newWS (σ 1 0) i w) i (nC (σ 1 0))).2))) (doS σ (accS (newWS (σ 1 0) i w) i (nC (σ 1 0))).1)) : Con X l yX3_accepts cX3_accepts 3 (some .int) 6 [.ref (adr X 0 0 0), .int c, .int w] σ Q := by
  refine Con_of [some (.ref (adr X 0 0 0)), some (.int c), some (.int w)] (by decide) rfl (Nat.le_of_ble_eq_true rfl) ?_
  have hL0 := hL
  obtain ⟨hv0, hvA, hv2, hv3⟩ := hL
  have hv1 := hvA 0 (by decide)
  have hvt := hvA 1 (by decide)
  have hW := hw.1
  have hWc := hw.1.2.2.1
  have hWw := hw.1.2.2.2.2
  refine T_aload_n dX3_accepts_0 rfl rfl ?_
  refine T_iload_n dX3_accepts_1 rfl rfl ?_
  refine T_vi (Rc_of (hv0 0 (by decide)) rfl rfl) (k_X3_isCopy hL0) ml_X3_77 im_yX3_isCopy se_RX3_yX3_isCopy ini_RX3 co_yX3_isCopy rfl de_X3_isCopy (by decide) (by decide) rfl (Nat.le_of_ble_eq_true rfl) dX3_accepts_2 ?_
  refine T_if_eq 19 dX3_accepts_5 (by decide) (fun h5 => ?_) (fun h5 => ?_)
  · refine T_iconst (v := -1) dX3_accepts_19 rfl ?_
    refine T_iret rfl dX3_accepts_20 ?_
    refine hB (fun q => ?_)
    first | exact (b01_0 h5) q.1 | exact q.2.1 h10 | exact h16 q.2.2
  · refine T_iload_n dX3_accepts_8 rfl rfl ?_
    refine T_iconst (v := nI 1) dX3_accepts_9 rfl ?_
    refine T_icmp_lt 19 dX3_accepts_10 (by decide) (fun h10 => ?_) (fun h10 => ?_)
    · refine T_iconst (v := -1) dX3_accepts_19 rfl ?_
      refine T_iret rfl dX3_accepts_20 ?_
      refine hB (fun q => ?_)
      first | exact (b01_0 h5) q.1 | exact q.2.1 h10 | exact h16 q.2.2
    · refine T_iload_n dX3_accepts_13 rfl rfl ?_
      refine T_bipush (v := nI 9) dX3_accepts_14 (by decide) ?_
      refine T_icmp_le 21 dX3_accepts_16 (by decide) (fun h16 => ?_) (fun h16 => ?_)
      · refine T_aload_n dX3_accepts_21 rfl rfl ?_
        refine T_g0 hv0 0 (by decide) fl_X3_10 rfl dX3_accepts_22 ?_
        refine T_g1 hv1 2 (by decide) fl_X3_81 rfl dX3_accepts_25 ?_
        refine T_bipush (v := nI 24) dX3_accepts_28 (by decide) ?_
        refine T_icmp_lt 36 dX3_accepts_30 (by decide) (fun h30 => ?_) (fun h30 => ?_)
        · have hM : nW (σ 1 0) < 24 := Classical.byContradiction fun z => absurd (hW.2.2.2.1 ▸ h30) (nI_nlt (by omega) (by omega))
          obtain ⟨i, hi, hci⟩ := isCp_i hW (b01_1 h5)
          rw [hci]
          refine T_aload_n dX3_accepts_36 rfl rfl ?_
          refine T_g0 hv0 2 (by decide) fl_X3_22 rfl dX3_accepts_37 ?_
          refine T_aload_n dX3_accepts_40 rfl rfl ?_
          refine T_g0 hv0 0 (by decide) fl_X3_10 rfl dX3_accepts_41 ?_
          refine T_vv (Rc_of (hv2 0 (by decide)) rfl rfl) (k_X0_remember hv2 hw.2.1.1 hw.2.1.2 hw.2.2.1.1 hw.2.2.1.2 hv1 (hvA _ (by have := hw.2.1.2; omega))) ml_X3_70 im_yX0_remember se_RX0_yX0_remember ini_RX0 co_yX0_remember rfl de_X0_remember (by decide) (by decide) rfl (Nat.le_of_ble_eq_true rfl) dX3_accepts_44 ?_
          refine T_aload_n dX3_accepts_47 rfl rfl ?_
          refine T_g0 hv0 0 (by decide) fl_X3_10 rfl dX3_accepts_48 ?_
          refine T_iload_n dX3_accepts_51 rfl rfl ?_
          refine T_iload_n dX3_accepts_52 rfl rfl ?_
          refine T_vi (Rc_of (hv1 0 (by decide)) rfl rfl) (con_un (rem_10 σ _ _) (k_X1_accept hv1 hW hM (by omega))) ml_X3_84 im_yX1_accept se_RX1_yX1_accept ini_RX1 co_yX1_accept rfl de_X1_accept (by decide) (by decide) rfl (Nat.le_of_ble_eq_true rfl) dX3_accepts_53 ?_
          refine T_iret rfl dX3_accepts_56 ?_
          exact hO i hi hci h10 h16 hM
        · refine T_bipush (v := -3) dX3_accepts_33 (by decide) ?_
          refine T_iret rfl dX3_accepts_35 ?_
          exact hF ⟨b01_1 h5, h10, h16⟩ (fun z => h30 (by rw [hW.2.2.2.1]; exact nI_lt z (by omega)))
      · refine T_iconst (v := -1) dX3_accepts_19 rfl ?_
        refine T_iret rfl dX3_accepts_20 ?_
        refine hB (fun q => ?_)
        first | exact (b01_0 h5) q.1 | exact q.2.1 h10 | exact h16 q.2.2
set_option maxHeartbeats 4000000 in
set_option maxRecDepth 100000 in
theorem k_X3_passes {X : Cx} {l : Launch} {σ : Hp} {Q : Option Value → Hp → Prop} {n : Int32} (hL : LVs X) (hw : CW σ) (hB : ¬ (¬ n < nI 1 ∧ n ≤ nI 99) → Q (some (.int (-1))) σ) (hS : (¬ n < nI 1 ∧ n ≤ nI 99) → ¬ (σ 1 0) 0 1 + n ≤ nI 999 → Q (some (.int (-2))) σ) (hO : (¬ n < nI 1 ∧ n ≤ nI 99) → (σ 1 0) 0 1 + n ≤ nI 999 → Q (some (.int ((σ 1 0) 0 1 + n))) (doS σ (up2 (σ 1 0) 0 1 ((σ 1 0) 0 1 + n)))) : Con X l yX3_passes cX3_passes 2 (some .int) 4 [.ref (adr X 0 0 0), .int n] σ Q := by
  refine Con_of [some (.ref (adr X 0 0 0)), some (.int n)] (by decide) rfl (Nat.le_of_ble_eq_true rfl) ?_
  have hL0 := hL
  obtain ⟨hv0, hvA, hv2, hv3⟩ := hL
  have hv1 := hvA 0 (by decide)
  have hvt := hvA 1 (by decide)
  refine T_iload_n dX3_passes_0 rfl rfl ?_
  refine T_iconst (v := nI 1) dX3_passes_1 rfl ?_
  refine T_icmp_lt 11 dX3_passes_2 (by decide) (fun h2 => ?_) (fun h2 => ?_)
  · refine T_iconst (v := -1) dX3_passes_11 rfl ?_
    refine T_iret rfl dX3_passes_12 ?_
    refine hB (fun q => ?_)
    first | exact q.1 h2 | exact h8 q.2
  · refine T_iload_n dX3_passes_5 rfl rfl ?_
    refine T_bipush (v := nI 99) dX3_passes_6 (by decide) ?_
    refine T_icmp_le 13 dX3_passes_8 (by decide) (fun h8 => ?_) (fun h8 => ?_)
    · refine T_aload_n dX3_passes_13 rfl rfl ?_
      refine T_g0 hv0 0 (by decide) fl_X3_10 rfl dX3_passes_14 ?_
      refine T_g1 hv1 1 (by decide) fl_X3_88 rfl dX3_passes_17 ?_
      refine T_iload_n dX3_passes_20 rfl rfl ?_
      refine T_iadd dX3_passes_21 ?_
      refine T_sipush (v := nI 999) dX3_passes_22 (by decide) ?_
      refine T_icmp_le 31 dX3_passes_25 (by decide) (fun h25 => ?_) (fun h25 => ?_)
      · refine T_aload_n dX3_passes_31 rfl rfl ?_
        refine T_g0 hv0 2 (by decide) fl_X3_22 rfl dX3_passes_32 ?_
        refine T_aload_n dX3_passes_35 rfl rfl ?_
        refine T_g0 hv0 0 (by decide) fl_X3_10 rfl dX3_passes_36 ?_
        refine T_vv (Rc_of (hv2 0 (by decide)) rfl rfl) (k_X0_remember hv2 hw.2.1.1 hw.2.1.2 hw.2.2.1.1 hw.2.2.1.2 hv1 (hvA _ (by have := hw.2.1.2; omega))) ml_X3_70 im_yX0_remember se_RX0_yX0_remember ini_RX0 co_yX0_remember rfl de_X0_remember (by decide) (by decide) rfl (Nat.le_of_ble_eq_true rfl) dX3_passes_39 ?_
        refine T_aload_n dX3_passes_42 rfl rfl ?_
        refine T_g0 hv0 0 (by decide) fl_X3_10 rfl dX3_passes_43 ?_
        refine T_dup dX3_passes_46 rfl ?_
        refine T_g1 (v := .int (σ 1 0 0 1)) hv1 1 (by decide) fl_X3_88 (congrArg (fun z : Rg => some (Value.int (z 0 1))) (rem_10 σ _ _)) dX3_passes_47 ?_
        refine T_iload_n dX3_passes_50 rfl rfl ?_
        refine T_iadd dX3_passes_51 ?_
        refine T_p1 (σ' := doS σ (up2 (σ 1 0) 0 1 (σ 1 0 0 1 + n))) hv1 1 (by decide) rfl rfl fl_X3_88 (by decide) rfl (by rw [rem_10]; rfl) dX3_passes_52 ?_
        refine T_aload_n dX3_passes_55 rfl rfl ?_
        refine T_g0 hv0 0 (by decide) fl_X3_10 rfl dX3_passes_56 ?_
        refine T_g1 (v := .int (σ 1 0 0 1 + n)) hv1 1 (by decide) fl_X3_88 rfl dX3_passes_59 ?_
        refine T_iret rfl dX3_passes_62 ?_
        exact hO ⟨h2, h8⟩ h25
      · refine T_bipush (v := -2) dX3_passes_28 (by decide) ?_
        refine T_iret rfl dX3_passes_30 ?_
        exact hS ⟨h2, h8⟩ h25
    · refine T_iconst (v := -1) dX3_passes_11 rfl ?_
      refine T_iret rfl dX3_passes_12 ?_
      refine hB (fun q => ?_)
      first | exact q.1 h2 | exact h8 q.2
set_option maxHeartbeats 4000000 in
set_option maxRecDepth 100000 in
theorem k_X3_pulls {X : Cx} {l : Launch} {σ : Hp} {Q : Option Value → Hp → Prop} {a c : Int32} (hL : LVs X) (hw : CW σ) (hB : ¬ arP (σ 1 0) a c → Q (some (.int (-1))) σ) (hO : ∀ i j, i < nC (σ 1 0) → j < nC (σ 1 0) → a = nI i → c = nI j → ¬ i = j → Q (some (.int (popS (pullS (σ 1 0) i j 4 i) - popS ((σ 1 0) 4 i)))) (doS σ (pullS (σ 1 0) i j))) : Con X l yX3_pulls cX3_pulls 4 (some .int) 4 [.ref (adr X 0 0 0), .int a, .int c] σ Q := by
  refine Con_of [some (.ref (adr X 0 0 0)), some (.int a), some (.int c), none] (by decide) rfl (Nat.le_of_ble_eq_true rfl) ?_
  have hL0 := hL
  obtain ⟨hv0, hvA, hv2, hv3⟩ := hL
  have hv1 := hvA 0 (by decide)
  have hvt := hvA 1 (by decide)
  have hW := hw.1
  have hWc := hw.1.2.2.1
  have hWw := hw.1.2.2.2.2
  refine T_aload_n dX3_pulls_0 rfl rfl ?_
  refine T_iload_n dX3_pulls_1 rfl rfl ?_
  refine T_iload_n dX3_pulls_2 rfl rfl ?_
  refine T_vi (Rc_of (hv0 0 (by decide)) rfl rfl) (k_X3_arePair hL0) ml_X3_91 im_yX3_arePair se_RX3_yX3_arePair ini_RX3 co_yX3_arePair rfl de_X3_arePair (by decide) (by decide) rfl (Nat.le_of_ble_eq_true rfl) dX3_pulls_3 ?_
  refine T_if_ne 11 dX3_pulls_6 (by decide) (fun h6 => ?_) (fun h6 => ?_)
  · have hp := b01_1 h6
    obtain ⟨i, hi, hai⟩ := isCp_i hW hp.1
    obtain ⟨j, hj, hcj⟩ := isCp_i hW hp.2.1
    have hij : ¬ i = j := fun e => hp.2.2 (by rw [hai, hcj, e])
    rw [hai, hcj]
    refine T_aload_n dX3_pulls_11 rfl rfl ?_
    refine T_g0 hv0 2 (by decide) fl_X3_22 rfl dX3_pulls_12 ?_
    refine T_aload_n dX3_pulls_15 rfl rfl ?_
    refine T_g0 hv0 0 (by decide) fl_X3_10 rfl dX3_pulls_16 ?_
    refine T_vv (Rc_of (hv2 0 (by decide)) rfl rfl) (k_X0_remember hv2 hw.2.1.1 hw.2.1.2 hw.2.2.1.1 hw.2.2.1.2 hv1 (hvA _ (by have := hw.2.1.2; omega))) ml_X3_70 im_yX0_remember se_RX0_yX0_remember ini_RX0 co_yX0_remember rfl de_X0_remember (by decide) (by decide) rfl (Nat.le_of_ble_eq_true rfl) dX3_pulls_19 ?_
    refine T_aload_n dX3_pulls_22 rfl rfl ?_
    refine T_g0 hv0 0 (by decide) fl_X3_10 rfl dX3_pulls_23 ?_
    refine T_g1 hv1 6 (by decide) fl_X3_95 rfl dX3_pulls_26 ?_
    refine T_iload_n dX3_pulls_29 rfl rfl ?_
    refine T_iald (g := σ 1 0 4) (by rw [rem_10]) (hv1 _ (by decide)) rfl (Nat.le_of_ble_eq_true rfl) i (by omega) rfl dX3_pulls_30 ?_
    refine T_si k_J6_bitCount_0f7a4 ml_X3_98 sm_yJ6_bitCount_0f7a4 ini_RJ6 co_yJ6_bitCount_0f7a4 de_J6_bitCount_0f7a4 (by decide) (by decide) rfl (Nat.le_of_ble_eq_true rfl) dX3_pulls_31 ?_
    refine T_istore3 dX3_pulls_34 rfl (by decide) ?_
    refine T_aload_n dX3_pulls_35 rfl rfl ?_
    refine T_g0 hv0 0 (by decide) fl_X3_10 rfl dX3_pulls_36 ?_
    refine T_iload_n dX3_pulls_39 rfl rfl ?_
    refine T_iload_n dX3_pulls_40 rfl rfl ?_
    refine T_vv (Rc_of (hv1 0 (by decide)) rfl rfl) (con_un (rem_10 σ _ _) (k_X1_pull hv1 hW (by omega) (by omega))) ml_X3_104 im_yX1_pull se_RX1_yX1_pull ini_RX1 co_yX1_pull rfl de_X1_pull (by decide) (by decide) rfl (Nat.le_of_ble_eq_true rfl) dX3_pulls_41 ?_
    refine T_aload_n dX3_pulls_44 rfl rfl ?_
    refine T_g0 hv0 0 (by decide) fl_X3_10 rfl dX3_pulls_45 ?_
    refine T_g1 hv1 6 (by decide) fl_X3_95 rfl dX3_pulls_48 ?_
    refine T_iload_n dX3_pulls_51 rfl rfl ?_
    refine T_iald (g := pullS (σ 1 0) i j 4) (by rw [setR_self]) (hv1 _ (by decide)) rfl (Nat.le_of_ble_eq_true rfl) i (by omega) rfl dX3_pulls_52 ?_
    refine T_si k_J6_bitCount_0f7a4 ml_X3_98 sm_yJ6_bitCount_0f7a4 ini_RJ6 co_yJ6_bitCount_0f7a4 de_J6_bitCount_0f7a4 (by decide) (by decide) rfl (Nat.le_of_ble_eq_true rfl) dX3_pulls_53 ?_
    refine T_iload_n dX3_pulls_56 rfl rfl ?_
    refine T_isub dX3_pulls_57 ?_
    refine T_iret rfl dX3_pulls_58 ?_
    exact hO i j hi hj hai hcj hij
  · refine T_iconst (v := -1) dX3_pulls_9 rfl ?_
    refine T_iret rfl dX3_pulls_10 ?_
    exact hB (b01_0 h6)
set_option maxHeartbeats 4000000 in
set_option maxRecDepth 100000 in
theorem k_X3_reads {X : Cx} {l : Launch} {σ : Hp} {Q : Option Value → Hp → Prop} {c : Int32} (hL : LVs X) (hw : CW σ) (hB : ¬ isCp (σ 1 0) c → Q (some (.int (-1))) σ) (hO : ∀ i, i < nC (σ 1 0) → c = nI i → Q (some (.int (nI (readS (σ 1 0) i).2))) (doS σ (readS (σ 1 0) i).1)) : Con X l yX3_reads cX3_reads 2 (some .int) 5 [.ref (adr X 0 0 0), .int c] σ Q := by
  refine Con_of [some (.ref (adr X 0 0 0)), some (.int c)] (by decide) rfl (Nat.le_of_ble_eq_true rfl) ?_
  have hL0 := hL
  obtain ⟨hv0, hvA, hv2, hv3⟩ := hL
  have hv1 := hvA 0 (by decide)
  have hvt := hvA 1 (by decide)
  have hW := hw.1
  have hWc := hw.1.2.2.1
  have hWw := hw.1.2.2.2.2
  refine T_aload_n dX3_reads_0 rfl rfl ?_
  refine T_iload_n dX3_reads_1 rfl rfl ?_
  refine T_vi (Rc_of (hv0 0 (by decide)) rfl rfl) (k_X3_isCopy hL0) ml_X3_77 im_yX3_isCopy se_RX3_yX3_isCopy ini_RX3 co_yX3_isCopy rfl de_X3_isCopy (by decide) (by decide) rfl (Nat.le_of_ble_eq_true rfl) dX3_reads_2 ?_
  refine T_if_ne 10 dX3_reads_5 (by decide) (fun h5 => ?_) (fun h5 => ?_)
  · obtain ⟨i, hi, hci⟩ := isCp_i hW (b01_1 h5)
    rw [hci]
    refine T_aload_n dX3_reads_10 rfl rfl ?_
    refine T_g0 hv0 2 (by decide) fl_X3_22 rfl dX3_reads_11 ?_
    refine T_aload_n dX3_reads_14 rfl rfl ?_
    refine T_g0 hv0 0 (by decide) fl_X3_10 rfl dX3_reads_15 ?_
    refine T_vv (Rc_of (hv2 0 (by decide)) rfl rfl) (k_X0_remember hv2 hw.2.1.1 hw.2.1.2 hw.2.2.1.1 hw.2.2.1.2 hv1 (hvA _ (by have := hw.2.1.2; omega))) ml_X3_70 im_yX0_remember se_RX0_yX0_remember ini_RX0 co_yX0_remember rfl de_X0_remember (by decide) (by decide) rfl (Nat.le_of_ble_eq_true rfl) dX3_reads_18 ?_
    refine T_aload_n dX3_reads_21 rfl rfl ?_
    refine T_g0 hv0 0 (by decide) fl_X3_10 rfl dX3_reads_22 ?_
    refine T_iload_n dX3_reads_25 rfl rfl ?_
    refine T_vi (Rc_of (hv1 0 (by decide)) rfl rfl) (con_un (rem_10 σ _ _) (k_X1_read hv1 hW (by omega))) ml_X3_108 im_yX1_read se_RX1_yX1_read ini_RX1 co_yX1_read rfl de_X1_read (by decide) (by decide) rfl (Nat.le_of_ble_eq_true rfl) dX3_reads_26 ?_
    refine T_iret rfl dX3_reads_29 ?_
    exact hO i hi hci
  · refine T_iconst (v := -1) dX3_reads_8 rfl ?_
    refine T_iret rfl dX3_reads_9 ?_
    exact hB (b01_0 h5)
set_option maxHeartbeats 4000000 in
set_option maxRecDepth 100000 in
theorem k_X3_evens {X : Cx} {l : Launch} {σ : Hp} {Q : Option Value → Hp → Prop} {c : Int32} (hL : LVs X) (hw : CW σ) (hB : ¬ isCp (σ 1 0) c → Q (some (.int (-1))) σ) (hO : ∀ i, i < nC (σ 1 0) → c = nI i → Q (some (.int (totS (σ 1 0) i (nC (σ 1 0))))) (doS σ (eveS (σ 1 0) i (totS (σ 1 0) i (nC (σ 1 0))) (nC (σ 1 0))))) : Con X l yX3_evens cX3_evens 2 (some .int) 5 [.ref (adr X 0 0 0), .int c] σ Q := by
  refine Con_of [some (.ref (adr X 0 0 0)), some (.int c)] (by decide) rfl (Nat.le_of_ble_eq_true rfl) ?_
  have hL0 := hL
  obtain ⟨hv0, hvA, hv2, hv3⟩ := hL
  have hv1 := hvA 0 (by decide)
  have hvt := hvA 1 (by decide)
  have hW := hw.1
  have hWc := hw.1.2.2.1
  have hWw := hw.1.2.2.2.2
  refine T_aload_n dX3_evens_0 rfl rfl ?_
  refine T_iload_n dX3_evens_1 rfl rfl ?_
  refine T_vi (Rc_of (hv0 0 (by decide)) rfl rfl) (k_X3_isCopy hL0) ml_X3_77 im_yX3_isCopy se_RX3_yX3_isCopy ini_RX3 co_yX3_isCopy rfl de_X3_isCopy (by decide) (by decide) rfl (Nat.le_of_ble_eq_true rfl) dX3_evens_2 ?_
  refine T_if_ne 10 dX3_evens_5 (by decide) (fun h5 => ?_) (fun h5 => ?_)
  · obtain ⟨i, hi, hci⟩ := isCp_i hW (b01_1 h5)
    rw [hci]
    refine T_aload_n dX3_evens_10 rfl rfl ?_
    refine T_g0 hv0 2 (by decide) fl_X3_22 rfl dX3_evens_11 ?_
    refine T_aload_n dX3_evens_14 rfl rfl ?_
    refine T_g0 hv0 0 (by decide) fl_X3_10 rfl dX3_evens_15 ?_
    refine T_vv (Rc_of (hv2 0 (by decide)) rfl rfl) (k_X0_remember hv2 hw.2.1.1 hw.2.1.2 hw.2.2.1.1 hw.2.2.1.2 hv1 (hvA _ (by have := hw.2.1.2; omega))) ml_X3_70 im_yX0_remember se_RX0_yX0_remember ini_RX0 co_yX0_remember rfl de_X0_remember (by decide) (by decide) rfl (Nat.le_of_ble_eq_true rfl) dX3_evens_18 ?_
    refine T_aload_n dX3_evens_21 rfl rfl ?_
    refine T_g0 hv0 0 (by decide) fl_X3_10 rfl dX3_evens_22 ?_
    refine T_iload_n dX3_evens_25 rfl rfl ?_
    refine T_vi (Rc_of (hv1 0 (by decide)) rfl rfl) (con_un (rem_10 σ _ _) (k_X1_even hv1 hW (by omega))) ml_X3_118 im_yX1_even se_RX1_yX1_even ini_RX1 co_yX1_even rfl de_X1_even (by decide) (by decide) rfl (Nat.le_of_ble_eq_true rfl) dX3_evens_26 ?_
    refine T_iret rfl dX3_evens_29 ?_
    exact hO i hi hci
  · refine T_iconst (v := -1) dX3_evens_8 rfl ?_
    refine T_iret rfl dX3_evens_9 ?_
    exact hB (b01_0 h5)
set_option maxHeartbeats 4000000 in
set_option maxRecDepth 100000 in
theorem k_X3_moves {X : Cx} {l : Launch} {σ : Hp} {Q : Option Value → Hp → Prop} {a c e k : Int32} (hL : LVs X) (hw : CW σ) (hB : ¬ (arP (σ 1 0) a c ∧ arP (σ 1 0) a e ∧ ¬ c = e ∧ ¬ k < nI 1 ∧ k ≤ nI 99) → Q (some (.int (-1))) σ) (hS : ∀ i j, i < nC (σ 1 0) → j < nC (σ 1 0) → a = nI i → c = nI j → (arP (σ 1 0) a c ∧ arP (σ 1 0) a e ∧ ¬ c = e ∧ ¬ k < nI 1 ∧ k ≤ nI 99) → ¬ k ≤ leftS (σ 1 0) j i → Q (some (.int (-2))) σ) (hO : ∀ i j q, i < nC (σ 1 0) → j < nC (σ 1 0) → q < nC (σ 1 0) → a = nI i → c = nI j → e = nI q → (arP (σ 1 0) a c ∧ arP (σ 1 0) a e ∧ ¬ c = e ∧ ¬ k < nI 1 ∧ k ≤ nI 99) → k ≤ leftS (σ 1 0) j i → Q (some (.int (moveS (σ 1 0) i j q k 7 (i * 4 + j)))) (doS σ (moveS (σ 1 0) i j q k))) : Con X l yX3_moves cX3_moves 5 (some .int) 4 [.ref (adr X 0 0 0), .int a, .int c, .int e, .int k] σ Q := by
  refine Con_of [some (.ref (adr X 0 0 0)), some (.int a), some (.int c), some (.int e), some (.int k)] (by decide) rfl (Nat.le_of_ble_eq_true rfl) ?_
  have hL0 := hL
  obtain ⟨hv0, hvA, hv2, hv3⟩ := hL
  have hv1 := hvA 0 (by decide)
  have hvt := hvA 1 (by decide)
  have hW := hw.1
  have hWc := hw.1.2.2.1
  have hWw := hw.1.2.2.2.2
  refine T_aload_n dX3_moves_0 rfl rfl ?_
  refine T_iload_n dX3_moves_1 rfl rfl ?_
  refine T_iload_n dX3_moves_2 rfl rfl ?_
  refine T_vi (Rc_of (hv0 0 (by decide)) rfl rfl) (k_X3_arePair hL0) ml_X3_91 im_yX3_arePair se_RX3_yX3_arePair ini_RX3 co_yX3_arePair rfl de_X3_arePair (by decide) (by decide) rfl (Nat.le_of_ble_eq_true rfl) dX3_moves_3 ?_
  refine T_if_eq 36 dX3_moves_6 (by decide) (fun h6 => ?_) (fun h6 => ?_)
  · refine T_iconst (v := -1) dX3_moves_36 rfl ?_
    refine T_iret rfl dX3_moves_37 ?_
    refine hB (fun q => ?_)
    first | exact (b01_0 h6) q.1 | exact (b01_0 h15) q.2.1 | exact q.2.2.1 h20 | exact q.2.2.2.1 h26 | exact h33 q.2.2.2.2
  · refine T_aload_n dX3_moves_9 rfl rfl ?_
    refine T_iload_n dX3_moves_10 rfl rfl ?_
    refine T_iload_n dX3_moves_11 rfl rfl ?_
    refine T_vi (Rc_of (hv0 0 (by decide)) rfl rfl) (k_X3_arePair hL0) ml_X3_91 im_yX3_arePair se_RX3_yX3_arePair ini_RX3 co_yX3_arePair rfl de_X3_arePair (by decide) (by decide) rfl (Nat.le_of_ble_eq_true rfl) dX3_moves_12 ?_
    refine T_if_eq 36 dX3_moves_15 (by decide) (fun h15 => ?_) (fun h15 => ?_)
    · refine T_iconst (v := -1) dX3_moves_36 rfl ?_
      refine T_iret rfl dX3_moves_37 ?_
      refine hB (fun q => ?_)
      first | exact (b01_0 h6) q.1 | exact (b01_0 h15) q.2.1 | exact q.2.2.1 h20 | exact q.2.2.2.1 h26 | exact h33 q.2.2.2.2
    · refine T_iload_n dX3_moves_18 rfl rfl ?_
      refine T_iload_n dX3_moves_19 rfl rfl ?_
      refine T_icmp_eq 36 dX3_moves_20 (by decide) (fun h20 => ?_) (fun h20 => ?_)
      · refine T_iconst (v := -1) dX3_moves_36 rfl ?_
        refine T_iret rfl dX3_moves_37 ?_
        refine hB (fun q => ?_)
        first | exact (b01_0 h6) q.1 | exact (b01_0 h15) q.2.1 | exact q.2.2.1 h20 | exact q.2.2.2.1 h26 | exact h33 q.2.2.2.2
      · refine T_iload dX3_moves_23 rfl ?_
        refine T_iconst (v := nI 1) dX3_moves_25 rfl ?_
        refine T_icmp_lt 36 dX3_moves_26 (by decide) (fun h26 => ?_) (fun h26 => ?_)
        · refine T_iconst (v := -1) dX3_moves_36 rfl ?_
          refine T_iret rfl dX3_moves_37 ?_
          refine hB (fun q => ?_)
          first | exact (b01_0 h6) q.1 | exact (b01_0 h15) q.2.1 | exact q.2.2.1 h20 | exact q.2.2.2.1 h26 | exact h33 q.2.2.2.2
        · refine T_iload dX3_moves_29 rfl ?_
          refine T_bipush (v := nI 99) dX3_moves_31 (by decide) ?_
          refine T_icmp_le 38 dX3_moves_33 (by decide) (fun h33 => ?_) (fun h33 => ?_)
          · have hp := b01_1 h6
            have hp2 := b01_1 h15
            have hall : (arP (σ 1 0) a c ∧ arP (σ 1 0) a e ∧ ¬ c = e ∧ ¬ k < nI 1 ∧ k ≤ nI 99) := ⟨hp, hp2, h20, h26, h33⟩
            obtain ⟨i, hi, hai⟩ := isCp_i hW hp.1
            obtain ⟨j, hj, hcj⟩ := isCp_i hW hp.2.1
            obtain ⟨q, hq, heq⟩ := isCp_i hW hp2.2.1
            rw [hai, hcj, heq]
            refine T_aload_n dX3_moves_38 rfl rfl ?_
            refine T_g0 hv0 0 (by decide) fl_X3_10 rfl dX3_moves_39 ?_
            refine T_iload_n dX3_moves_42 rfl rfl ?_
            refine T_iload_n dX3_moves_43 rfl rfl ?_
            refine T_vi (Rc_of (hv1 0 (by decide)) rfl rfl) (con_uq rfl (k_X1_left hv1 hW (by omega) (by omega))) ml_X3_111 im_yX1_left se_RX1_yX1_left ini_RX1 co_yX1_left rfl de_X1_left (by decide) (by decide) rfl (Nat.le_of_ble_eq_true rfl) dX3_moves_44 ?_
            refine T_iload dX3_moves_47 rfl ?_
            refine T_icmp_ge 55 dX3_moves_49 (by decide) (fun h49 => ?_) (fun h49 => ?_)
            · refine T_aload_n dX3_moves_55 rfl rfl ?_
              refine T_g0 hv0 2 (by decide) fl_X3_22 rfl dX3_moves_56 ?_
              refine T_aload_n dX3_moves_59 rfl rfl ?_
              refine T_g0 hv0 0 (by decide) fl_X3_10 rfl dX3_moves_60 ?_
              refine T_vv (Rc_of (hv2 0 (by decide)) rfl rfl) (k_X0_remember hv2 hw.2.1.1 hw.2.1.2 hw.2.2.1.1 hw.2.2.1.2 hv1 (hvA _ (by have := hw.2.1.2; omega))) ml_X3_70 im_yX0_remember se_RX0_yX0_remember ini_RX0 co_yX0_remember rfl de_X0_remember (by decide) (by decide) rfl (Nat.le_of_ble_eq_true rfl) dX3_moves_63 ?_
              refine T_aload_n dX3_moves_66 rfl rfl ?_
              refine T_g0 hv0 0 (by decide) fl_X3_10 rfl dX3_moves_67 ?_
              refine T_iload_n dX3_moves_70 rfl rfl ?_
              refine T_iload_n dX3_moves_71 rfl rfl ?_
              refine T_iload_n dX3_moves_72 rfl rfl ?_
              refine T_iload dX3_moves_73 rfl ?_
              refine T_vi (Rc_of (hv1 0 (by decide)) rfl rfl) (con_un (rem_10 σ _ _) (k_X1_move hv1 (by omega) (by omega) (by omega))) ml_X3_114 im_yX1_move se_RX1_yX1_move ini_RX1 co_yX1_move rfl de_X1_move (by decide) (by decide) rfl (Nat.le_of_ble_eq_true rfl) dX3_moves_75 ?_
              refine T_iret rfl dX3_moves_78 ?_
              exact hO i j q hi hj hq hai hcj heq hall h49
            · refine T_bipush (v := -2) dX3_moves_52 (by decide) ?_
              refine T_iret rfl dX3_moves_54 ?_
              exact hS i j hi hj hai hcj hall h49
          · refine T_iconst (v := -1) dX3_moves_36 rfl ?_
            refine T_iret rfl dX3_moves_37 ?_
            refine hB (fun q => ?_)
            first | exact (b01_0 h6) q.1 | exact (b01_0 h15) q.2.1 | exact q.2.2.1 h20 | exact q.2.2.2.1 h26 | exact h33 q.2.2.2.2
set_option maxHeartbeats 4000000 in
set_option maxRecDepth 100000 in
theorem k_X3_bounds {X : Cx} {l : Launch} {σ : Hp} {Q : Option Value → Hp → Prop} {c x y z : Int32} (hL : LVs X) (hw : CW σ) (hB : ¬ (isCp (σ 1 0) c ∧ (¬ x < 0 ∧ ¬ nI 99 < x) ∧ (¬ y < 0 ∧ ¬ nI 9 < y) ∧ (¬ z < 0 ∧ z ≤ nI 99)) → Q (some (.int (-1))) σ) (hS : ∀ i, i < nC (σ 1 0) → c = nI i → (isCp (σ 1 0) c ∧ (¬ x < 0 ∧ ¬ nI 99 < x) ∧ (¬ y < 0 ∧ ¬ nI 9 < y) ∧ (¬ z < 0 ∧ z ≤ nI 99)) → ((σ 1 0) 1 i = x ∧ (σ 1 0) 2 i = y ∧ (σ 1 0) 3 i = z) → Q (some (.int (-2))) σ) (hO : ∀ i, i < nC (σ 1 0) → c = nI i → (isCp (σ 1 0) c ∧ (¬ x < 0 ∧ ¬ nI 99 < x) ∧ (¬ y < 0 ∧ ¬ nI 9 < y) ∧ (¬ z < 0 ∧ z ≤ nI 99)) → ¬ ((σ 1 0) 1 i = x ∧ (σ 1 0) 2 i = y ∧ (σ 1 0) 3 i = z) → Q (some (.int (nI (bindS (σ 1 0) i x y z).2))) (doS σ (bindS (σ 1 0) i x y z).1)) : Con X l yX3_bounds cX3_bounds 5 (some .int) 6 [.ref (adr X 0 0 0), .int c, .int x, .int y, .int z] σ Q := by
  refine Con_of [some (.ref (adr X 0 0 0)), some (.int c), some (.int x), some (.int y), some (.int z)] (by decide) rfl (Nat.le_of_ble_eq_true rfl) ?_
  have hL0 := hL
  obtain ⟨hv0, hvA, hv2, hv3⟩ := hL
  have hv1 := hvA 0 (by decide)
  have hvt := hvA 1 (by decide)
  have hW := hw.1
  have hWc := hw.1.2.2.1
  have hWw := hw.1.2.2.2.2
  refine T_aload_n dX3_bounds_0 rfl rfl ?_
  refine T_iload_n dX3_bounds_1 rfl rfl ?_
  refine T_vi (Rc_of (hv0 0 (by decide)) rfl rfl) (k_X3_isCopy hL0) ml_X3_77 im_yX3_isCopy se_RX3_yX3_isCopy ini_RX3 co_yX3_isCopy rfl de_X3_isCopy (by decide) (by decide) rfl (Nat.le_of_ble_eq_true rfl) dX3_bounds_2 ?_
  refine T_if_eq 40 dX3_bounds_5 (by decide) (fun h5 => ?_) (fun h5 => ?_)
  · refine T_iconst (v := -1) dX3_bounds_40 rfl ?_
    refine T_iret rfl dX3_bounds_41 ?_
    refine hB (fun q => ?_)
    first | exact (b01_0 h5) q.1 | exact q.2.1.1 h9 | exact q.2.1.2 h15 | exact q.2.2.1.1 h19 | exact q.2.2.1.2 h25 | exact q.2.2.2.1 h30 | exact h37 q.2.2.2.2
  · refine T_iload_n dX3_bounds_8 rfl rfl ?_
    refine T_if_lt 40 dX3_bounds_9 (by decide) (fun h9 => ?_) (fun h9 => ?_)
    · refine T_iconst (v := -1) dX3_bounds_40 rfl ?_
      refine T_iret rfl dX3_bounds_41 ?_
      refine hB (fun q => ?_)
      first | exact (b01_0 h5) q.1 | exact q.2.1.1 h9 | exact q.2.1.2 h15 | exact q.2.2.1.1 h19 | exact q.2.2.1.2 h25 | exact q.2.2.2.1 h30 | exact h37 q.2.2.2.2
    · refine T_iload_n dX3_bounds_12 rfl rfl ?_
      refine T_bipush (v := nI 99) dX3_bounds_13 (by decide) ?_
      refine T_icmp_gt 40 dX3_bounds_15 (by decide) (fun h15 => ?_) (fun h15 => ?_)
      · refine T_iconst (v := -1) dX3_bounds_40 rfl ?_
        refine T_iret rfl dX3_bounds_41 ?_
        refine hB (fun q => ?_)
        first | exact (b01_0 h5) q.1 | exact q.2.1.1 h9 | exact q.2.1.2 h15 | exact q.2.2.1.1 h19 | exact q.2.2.1.2 h25 | exact q.2.2.2.1 h30 | exact h37 q.2.2.2.2
      · refine T_iload_n dX3_bounds_18 rfl rfl ?_
        refine T_if_lt 40 dX3_bounds_19 (by decide) (fun h19 => ?_) (fun h19 => ?_)
        · refine T_iconst (v := -1) dX3_bounds_40 rfl ?_
          refine T_iret rfl dX3_bounds_41 ?_
          refine hB (fun q => ?_)
          first | exact (b01_0 h5) q.1 | exact q.2.1.1 h9 | exact q.2.1.2 h15 | exact q.2.2.1.1 h19 | exact q.2.2.1.2 h25 | exact q.2.2.2.1 h30 | exact h37 q.2.2.2.2
        · refine T_iload_n dX3_bounds_22 rfl rfl ?_
          refine T_bipush (v := nI 9) dX3_bounds_23 (by decide) ?_
          refine T_icmp_gt 40 dX3_bounds_25 (by decide) (fun h25 => ?_) (fun h25 => ?_)
          · refine T_iconst (v := -1) dX3_bounds_40 rfl ?_
            refine T_iret rfl dX3_bounds_41 ?_
            refine hB (fun q => ?_)
            first | exact (b01_0 h5) q.1 | exact q.2.1.1 h9 | exact q.2.1.2 h15 | exact q.2.2.1.1 h19 | exact q.2.2.1.2 h25 | exact q.2.2.2.1 h30 | exact h37 q.2.2.2.2
          · refine T_iload dX3_bounds_28 rfl ?_
            refine T_if_lt 40 dX3_bounds_30 (by decide) (fun h30 => ?_) (fun h30 => ?_)
            · refine T_iconst (v := -1) dX3_bounds_40 rfl ?_
              refine T_iret rfl dX3_bounds_41 ?_
              refine hB (fun q => ?_)
              first | exact (b01_0 h5) q.1 | exact q.2.1.1 h9 | exact q.2.1.2 h15 | exact q.2.2.1.1 h19 | exact q.2.2.1.2 h25 | exact q.2.2.2.1 h30 | exact h37 q.2.2.2.2
            · refine T_iload dX3_bounds_33 rfl ?_
              refine T_bipush (v := nI 99) dX3_bounds_35 (by decide) ?_
              refine T_icmp_le 42 dX3_bounds_37 (by decide) (fun h37 => ?_) (fun h37 => ?_)
              · have hall : (isCp (σ 1 0) c ∧ (¬ x < 0 ∧ ¬ nI 99 < x) ∧ (¬ y < 0 ∧ ¬ nI 9 < y) ∧ (¬ z < 0 ∧ z ≤ nI 99)) := ⟨b01_1 h5, ⟨h9, h15⟩, ⟨h19, h25⟩, ⟨h30, h37⟩⟩
                obtain ⟨i, hi, hci⟩ := isCp_i hW (b01_1 h5)
                rw [hci]
                refine T_aload_n dX3_bounds_42 rfl rfl ?_
                refine T_g0 hv0 0 (by decide) fl_X3_10 rfl dX3_bounds_43 ?_
                refine T_iload_n dX3_bounds_46 rfl rfl ?_
                refine T_iload_n dX3_bounds_47 rfl rfl ?_
                refine T_iload_n dX3_bounds_48 rfl rfl ?_
                refine T_iload dX3_bounds_49 rfl ?_
                refine T_vi (Rc_of (hv1 0 (by decide)) rfl rfl) (con_uq rfl (k_X1_isBound hv1 (by omega))) ml_X3_121 im_yX1_isBound se_RX1_yX1_isBound ini_RX1 co_yX1_isBound rfl de_X1_isBound (by decide) (by decide) rfl (Nat.le_of_ble_eq_true rfl) dX3_bounds_51 ?_
                refine T_if_eq 60 dX3_bounds_54 (by decide) (fun h54 => ?_) (fun h54 => ?_)
                · refine T_aload_n dX3_bounds_60 rfl rfl ?_
                  refine T_g0 hv0 2 (by decide) fl_X3_22 rfl dX3_bounds_61 ?_
                  refine T_aload_n dX3_bounds_64 rfl rfl ?_
                  refine T_g0 hv0 0 (by decide) fl_X3_10 rfl dX3_bounds_65 ?_
                  refine T_vv (Rc_of (hv2 0 (by decide)) rfl rfl) (k_X0_remember hv2 hw.2.1.1 hw.2.1.2 hw.2.2.1.1 hw.2.2.1.2 hv1 (hvA _ (by have := hw.2.1.2; omega))) ml_X3_70 im_yX0_remember se_RX0_yX0_remember ini_RX0 co_yX0_remember rfl de_X0_remember (by decide) (by decide) rfl (Nat.le_of_ble_eq_true rfl) dX3_bounds_68 ?_
                  refine T_aload_n dX3_bounds_71 rfl rfl ?_
                  refine T_g0 hv0 0 (by decide) fl_X3_10 rfl dX3_bounds_72 ?_
                  refine T_iload_n dX3_bounds_75 rfl rfl ?_
                  refine T_iload_n dX3_bounds_76 rfl rfl ?_
                  refine T_iload_n dX3_bounds_77 rfl rfl ?_
                  refine T_iload dX3_bounds_78 rfl ?_
                  refine T_vi (Rc_of (hv1 0 (by decide)) rfl rfl) (con_un (rem_10 σ _ _) (k_X1_bindAnew hv1 hW (by omega))) ml_X3_125 im_yX1_bindAnew se_RX1_yX1_bindAnew ini_RX1 co_yX1_bindAnew rfl de_X1_bindAnew (by decide) (by decide) rfl (Nat.le_of_ble_eq_true rfl) dX3_bounds_80 ?_
                  refine T_iret rfl dX3_bounds_83 ?_
                  exact hO i hi hci hall (b01_0 h54)
                · refine T_bipush (v := -2) dX3_bounds_57 (by decide) ?_
                  refine T_iret rfl dX3_bounds_59 ?_
                  exact hS i hi hci hall (b01_1 h54)
              · refine T_iconst (v := -1) dX3_bounds_40 rfl ?_
                refine T_iret rfl dX3_bounds_41 ?_
                refine hB (fun q => ?_)
                first | exact (b01_0 h5) q.1 | exact q.2.1.1 h9 | exact q.2.1.2 h15 | exact q.2.2.1.1 h19 | exact q.2.2.1.2 h25 | exact q.2.2.2.1 h30 | exact h37 q.2.2.2.2
set_option maxHeartbeats 4000000 in
set_option maxRecDepth 100000 in
theorem k_X3_undo {X : Cx} {l : Launch} {σ : Hp} {Q : Option Value → Hp → Prop} (hL : LVs X) (hw : CW σ) (hS : ¬ 0 < kN σ → Q (some (.int (-2))) σ) (hO : 0 < kN σ → Q (some (.int (nI (kN σ - 1)))) (resS σ (nX σ) (kN σ))) : Con X l yX3_undo cX3_undo 1 (some .int) 4 [.ref (adr X 0 0 0)] σ Q := by
  refine Con_of [some (.ref (adr X 0 0 0))] (by decide) rfl (Nat.le_of_ble_eq_true rfl) ?_
  have hL0 := hL
  obtain ⟨hv0, hvA, hv2, hv3⟩ := hL
  have hv1 := hvA 0 (by decide)
  have hvt := hvA 1 (by decide)
  have hk := hw.2.2.1.1
  have hk8 := hw.2.2.1.2
  have hpv : 2 + prv (nX σ) < 12 := by have := hw.2.1.2; unfold prv; split <;> omega
  refine T_aload_n dX3_undo_0 rfl rfl ?_
  refine T_g0 hv0 2 (by decide) fl_X3_22 rfl dX3_undo_1 ?_
  refine T_g2 hv2 2 (by decide) fl_X3_128 rfl dX3_undo_4 ?_
  refine T_iconst (v := nI 1) dX3_undo_7 rfl ?_
  refine T_icmp_ge 14 dX3_undo_8 (by decide) (fun h8 => ?_) (fun h8 => ?_)
  · have hk0 : 0 < kN σ := Classical.byContradiction fun z => absurd (hk ▸ h8) (nI_ge (a := kN σ) (b := 1) (by omega) (by omega))
    refine T_aload_n dX3_undo_14 rfl rfl ?_
    refine T_g0 hv0 2 (by decide) fl_X3_22 rfl dX3_undo_15 ?_
    refine T_aload_n dX3_undo_18 rfl rfl ?_
    refine T_g0 hv0 0 (by decide) fl_X3_10 rfl dX3_undo_19 ?_
    refine T_vv (Rc_of (hv2 0 (by decide)) rfl rfl) (k_X0_restore hv2 hw.2.1.1 hw.2.1.2 hw.2.2.1.1 hw.2.2.1.2 hk0 hv1 (hvA _ hpv)) ml_X3_131 im_yX0_restore se_RX0_yX0_restore ini_RX0 co_yX0_restore rfl de_X0_restore (by decide) (by decide) rfl (Nat.le_of_ble_eq_true rfl) dX3_undo_22 ?_
    refine T_aload_n dX3_undo_25 rfl rfl ?_
    refine T_g0 hv0 2 (by decide) fl_X3_22 rfl dX3_undo_26 ?_
    refine T_g2 (v := .int (nI (kN σ - 1))) hv2 2 (by decide) fl_X3_128 rfl dX3_undo_29 ?_
    refine T_iret rfl dX3_undo_32 ?_
    exact hO hk0
  · refine T_bipush (v := -2) dX3_undo_11 (by decide) ?_
    refine T_iret rfl dX3_undo_13 ?_
    exact hS (fun z => h8 (by rw [hk]; exact nI_le (by omega) (by omega)))
