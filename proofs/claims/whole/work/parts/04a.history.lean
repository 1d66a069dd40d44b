/-! ===== history ===== -/
def remS (σ : Hp) (nx kn : Nat) : Hp := setR (setR σ 1 (2 + nx) (σ 1 0)) 2 0 (up2 (up2 (σ 2 0) 0 1 (nI (if nx + 1 < 8 then nx + 1 else 0))) 0 2 (if nI 8 < nI (kn + 1) then nI 8 else nI (kn + 1)))
def prv (nx : Nat) : Nat := if 0 < nx then nx - 1 else 7
def resS (σ : Hp) (nx kn : Nat) : Hp := setR (setR σ 2 0 (up2 (up2 (σ 2 0) 0 1 (nI (prv nx))) 0 2 (nI (kn - 1)))) 1 0 (σ 1 (2 + prv nx))

set_option maxHeartbeats 4000000 in
set_option maxRecDepth 100000 in
theorem k_X0_remember {X : Cx} {l : Launch} {σ : Hp} {nx kn : Nat} (hv2 : Lv X 2 0) (hx : σ 2 0 0 1 = nI nx) (hx8 : nx < 8) (hk : σ 2 0 0 2 = nI kn) (hk8 : kn ≤ 8) (hv1 : Lv X 1 0) (hvn : Lv X 1 (2 + nx)) : Con X l yX0_remember cX0_remember 2 none 3 [.ref (adr X 2 0 0), .ref (adr X 1 0 0)] σ (Ex none (remS σ nx kn)) := by
  refine Con_of [some (.ref (adr X 2 0 0)), some (.ref (adr X 1 0 0))] (by decide) rfl (Nat.le_of_ble_eq_true rfl) ?_
  have hA : ¬ nI 8 ≤ nI (nx + 1) → nx + 1 < 8 := fun h => Classical.byContradiction fun q => h (nI_le (by omega) (by omega))
  have hB : nI 8 ≤ nI (nx + 1) → ¬ nx + 1 < 8 := fun h q => absurd h (nI_ge q (by omega))
  refine T_aload_n dX0_remember_0 rfl rfl ?_
  refine T_g2 hv2 0 (by decide) fl_X0_11 rfl dX0_remember_1 ?_
  refine T_aload_n dX0_remember_4 rfl rfl ?_
  refine T_g2 (v := .int (nI nx)) hv2 1 (by decide) fl_X0_17 (congrArg (fun z => some (Value.int z)) hx) dX0_remember_5 ?_
  refine T_aald rfl (hv2 1 (by decide)) rfl (Nat.le_of_ble_eq_true rfl) nx hx8 rfl rfl dX0_remember_8 ?_
  refine T_aload_n dX0_remember_9 rfl rfl ?_
  refine T_vv (Rc_of (hvn 0 (by decide)) rfl rfl) (k_takeU (show ¬ 0 = 2 + nx by omega) hvn hv1) ml_X0_25 im_yX1_takeFrom se_RX1_yX1_takeFrom ini_RX1 co_yX1_takeFrom rfl de_X1_takeFrom (by decide) (by decide) rfl (Nat.le_of_ble_eq_true rfl) dX0_remember_10 ?_
  refine T_aload_n dX0_remember_13 rfl rfl ?_
  refine T_aload_n dX0_remember_14 rfl rfl ?_
  refine T_g2 (v := .int (nI nx)) hv2 1 (by decide) fl_X0_17 (congrArg (fun z => some (Value.int z)) hx) dX0_remember_15 ?_
  refine T_iconst (v := nI 1) dX0_remember_18 rfl ?_
  first | refine T_iaddN dX0_remember_19 ?_ | refine T_iadd dX0_remember_19 ?_
  refine T_bipush (v := nI 8) dX0_remember_20 (by decide) ?_
  refine T_icmp_ge 34 dX0_remember_22 (by decide) (fun h22 => ?_) (fun h22 => ?_)
  · refine T_iconst (v := nI 0) dX0_remember_34 rfl ?_
    refine T_p2 hv2 1 (by decide) rfl rfl fl_X0_17 (by decide) rfl rfl dX0_remember_35 ?_
    refine T_aload_n dX0_remember_38 rfl rfl ?_
    refine T_aload_n dX0_remember_39 rfl rfl ?_
    refine T_g2 (v := .int (nI kn)) hv2 2 (by decide) fl_X0_21 (congrArg (fun z => some (Value.int z)) hk) dX0_remember_40 ?_
    refine T_iconst (v := nI 1) dX0_remember_43 rfl ?_
    first | refine T_iaddN dX0_remember_44 ?_ | refine T_iadd dX0_remember_44 ?_
    refine T_bipush (v := nI 8) dX0_remember_45 (by decide) ?_
    refine T_min ml_X0_29 sm_Lib_Math_min_name ini__java_lang_Math_ co_Lib_Math_min_name (by decide) (Nat.le_of_ble_eq_true rfl) dX0_remember_47 ?_
    refine T_p2 hv2 2 (by decide) rfl rfl fl_X0_21 (by decide) rfl rfl dX0_remember_50 ?_
    refine T_vret rfl dX0_remember_53 ?_
    first | (refine ⟨rfl, ?_⟩; rw [setR_setR, remS, if_pos (hA h22)]; rfl) | (refine ⟨rfl, ?_⟩; rw [setR_setR, remS, if_neg (hB h22)]; rfl)
  · refine T_aload_n dX0_remember_25 rfl rfl ?_
    refine T_g2 (v := .int (nI nx)) hv2 1 (by decide) fl_X0_17 (congrArg (fun z => some (Value.int z)) hx) dX0_remember_26 ?_
    refine T_iconst (v := nI 1) dX0_remember_29 rfl ?_
    first | refine T_iaddN dX0_remember_30 ?_ | refine T_iadd dX0_remember_30 ?_
    refine T_goto 35 dX0_remember_31 (by decide) ?_
    refine T_p2 hv2 1 (by decide) rfl rfl fl_X0_17 (by decide) rfl rfl dX0_remember_35 ?_
    refine T_aload_n dX0_remember_38 rfl rfl ?_
    refine T_aload_n dX0_remember_39 rfl rfl ?_
    refine T_g2 (v := .int (nI kn)) hv2 2 (by decide) fl_X0_21 (congrArg (fun z => some (Value.int z)) hk) dX0_remember_40 ?_
    refine T_iconst (v := nI 1) dX0_remember_43 rfl ?_
    first | refine T_iaddN dX0_remember_44 ?_ | refine T_iadd dX0_remember_44 ?_
    refine T_bipush (v := nI 8) dX0_remember_45 (by decide) ?_
    refine T_min ml_X0_29 sm_Lib_Math_min_name ini__java_lang_Math_ co_Lib_Math_min_name (by decide) (Nat.le_of_ble_eq_true rfl) dX0_remember_47 ?_
    refine T_p2 hv2 2 (by decide) rfl rfl fl_X0_21 (by decide) rfl rfl dX0_remember_50 ?_
    refine T_vret rfl dX0_remember_53 ?_
    first | (refine ⟨rfl, ?_⟩; rw [setR_setR, remS, if_pos (hA h22)]; rfl) | (refine ⟨rfl, ?_⟩; rw [setR_setR, remS, if_neg (hB h22)]; rfl)
set_option maxHeartbeats 4000000 in
set_option maxRecDepth 100000 in
theorem k_X0_lose {X : Cx} {l : Launch} {σ : Hp} (hv2 : Lv X 2 0) : Con X l yX0_lose cX0_lose 1 none 0 [.ref (adr X 2 0 0)] σ (Ex none (setR σ 2 0 (up2 (σ 2 0) 0 2 (nI 0)))) := by
  refine Con_of [some (.ref (adr X 2 0 0))] (by decide) rfl (Nat.le_of_ble_eq_true rfl) ?_
  refine T_aload_n dX0_lose_0 rfl rfl ?_
  refine T_iconst (v := nI 0) dX0_lose_1 rfl ?_
  refine T_p2 hv2 2 (by decide) rfl rfl fl_X0_21 (by decide) rfl rfl dX0_lose_2 ?_
  refine T_vret rfl dX0_lose_5 ?_
  exact ⟨rfl, rfl⟩
set_option maxHeartbeats 4000000 in
set_option maxRecDepth 100000 in
theorem k_X0_restore {X : Cx} {l : Launch} {σ : Hp} {nx kn : Nat} (hv2 : Lv X 2 0) (hx : σ 2 0 0 1 = nI nx) (hx8 : nx < 8) (hk : σ 2 0 0 2 = nI kn) (hk8 : kn ≤ 8) (hk0 : 0 < kn) (hv1 : Lv X 1 0) (hvn : Lv X 1 (2 + prv nx)) : Con X l yX0_restore cX0_restore 2 none 3 [.ref (adr X 2 0 0), .ref (adr X 1 0 0)] σ (Ex none (resS σ nx kn)) := by
  refine Con_of [some (.ref (adr X 2 0 0)), some (.ref (adr X 1 0 0))] (by decide) rfl (Nat.le_of_ble_eq_true rfl) ?_
  have hp8 : prv nx < 8 := by unfold prv; split <;> omega
  have hpp : ¬ nI nx ≤ 0 → 0 < nx := fun h5 => Classical.byContradiction fun q => h5 (nI_le (a := nx) (b := 0) (by omega) (by omega))
  have hpq : ¬ nI nx ≤ 0 → prv nx = nx - 1 := fun h5 => by unfold prv; rw [if_pos (hpp h5)]
  have hp7 : nI nx ≤ 0 → prv nx = 7 := fun h5 => by unfold prv; rw [if_neg (fun q => absurd h5 (nI_ge (a := 0) q (by omega)))]
  have hgo : T X l yX0_restore cX0_restore 2 none 3 19 [some (.ref (adr X 2 0 0)), some (.ref (adr X 1 0 0))] [.int (nI (prv nx)), .ref (adr X 2 0 0)] σ (Ex none (resS σ nx kn)) := by
    refine T_p2 hv2 1 (by decide) rfl rfl fl_X0_17 (by decide) rfl rfl dX0_restore_19 ?_
    refine T_aload_n dX0_restore_22 rfl rfl ?_
    refine T_dup dX0_restore_23 rfl ?_
    refine T_g2 (v := .int (nI kn)) hv2 2 (by decide) fl_X0_21 (congrArg (fun z => some (Value.int z)) hk) dX0_restore_24 ?_
    refine T_iconst (v := nI 1) dX0_restore_27 rfl ?_
    refine T_isub dX0_restore_28 ?_
    rw [pk_sub (by omega)]
    refine T_p2 hv2 2 (by decide) rfl rfl fl_X0_21 (by decide) rfl rfl dX0_restore_29 ?_
    refine T_aload_n dX0_restore_32 rfl rfl ?_
    refine T_aload_n dX0_restore_33 rfl rfl ?_
    refine T_g2 hv2 0 (by decide) fl_X0_11 rfl dX0_restore_34 ?_
    refine T_aload_n dX0_restore_37 rfl rfl ?_
    refine T_g2 (v := .int (nI (prv nx))) hv2 1 (by decide) fl_X0_17 rfl dX0_restore_38 ?_
    refine T_aald rfl (hv2 1 (by decide)) rfl (Nat.le_of_ble_eq_true rfl) (prv nx) hp8 rfl rfl dX0_restore_41 ?_
    refine T_vv (Rc_of (hv1 0 (by decide)) rfl rfl) (k_takeU (show ¬ 2 + prv nx = 0 by omega) hv1 hvn) ml_X0_25 im_yX1_takeFrom se_RX1_yX1_takeFrom ini_RX1 co_yX1_takeFrom rfl de_X1_takeFrom (by decide) (by decide) rfl (Nat.le_of_ble_eq_true rfl) dX0_restore_42 ?_
    refine T_vret rfl dX0_restore_45 ?_
    refine ⟨rfl, ?_⟩
    rw [setR_setR]
    rfl
  refine T_aload_n dX0_restore_0 rfl rfl ?_
  refine T_aload_n dX0_restore_1 rfl rfl ?_
  refine T_g2 (v := .int (nI nx)) hv2 1 (by decide) fl_X0_17 (congrArg (fun z => some (Value.int z)) hx) dX0_restore_2 ?_
  refine T_if_le 17 dX0_restore_5 (by decide) (fun h5 => ?_) (fun h5 => ?_)
  · refine T_bipush (v := nI 7) dX0_restore_17 (by decide) ?_
    first | (rw [show nI 7 = nI (prv nx) from congrArg nI (hp7 h5).symm]; exact hgo) | (rw [pk_sub (Nat.succ_le_of_lt (hpp h5)), show nx - 1 = prv nx from (hpq h5).symm]; exact hgo)
  · refine T_aload_n dX0_restore_8 rfl rfl ?_
    refine T_g2 (v := .int (nI nx)) hv2 1 (by decide) fl_X0_17 (congrArg (fun z => some (Value.int z)) hx) dX0_restore_9 ?_
    refine T_iconst (v := nI 1) dX0_restore_12 rfl ?_
    refine T_isub dX0_restore_13 ?_
    refine T_goto 19 dX0_restore_14 (by decide) ?_
    first | (rw [show nI 7 = nI (prv nx) from congrArg nI (hp7 h5).symm]; exact hgo) | (rw [pk_sub (Nat.succ_le_of_lt (hpp h5)), show nx - 1 = prv nx from (hpq h5).symm]; exact hgo)
