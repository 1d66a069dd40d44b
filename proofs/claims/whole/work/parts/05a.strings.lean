/-! ===== the String constants' methods ===== -/
theorem sB_c {i j : Nat} (hi : i < 2) (hj : j < 6) : ((sB i j &&& nI 255).toUInt32 % 65536).toInt32 = sB i j ∧ narrow .char (.int (sB i j)) = .int (sB i j) := by
  rcases (show i = 0 ∨ i = 1 by omega) with rfl | rfl <;> rcases (show j = 0 ∨ j = 1 ∨ j = 2 ∨ j = 3 ∨ j = 4 ∨ j = 5 by omega) with rfl | rfl | rfl | rfl | rfl | rfl <;> exact ⟨by decide, by decide⟩

set_option maxHeartbeats 4000000 in
set_option maxRecDepth 100000 in
theorem k_J0_coder_7d493 {X : Cx} {l : Launch} {σ : Hp} {i : Nat} (hi : i < 2) : Con X l yJ0_coder_7d493 cJ0_coder_7d493 1 (some .byte) 0 [.ref (sA X i)] σ (Ex (some (.int (0))) σ) := by
  refine Con_of [some (.ref (sA X i))] (by decide) rfl (Nat.le_of_ble_eq_true rfl) ?_
  refine T_scmp fl_J0_38 dJ0_coder_7d493_0 ?_
  refine T_if_eq 13 dJ0_coder_7d493_3 (by decide) (fun h3 => (absurd h3 (by decide))) (fun h3 => ?_)
  refine T_aload_n dJ0_coder_7d493_6 rfl rfl ?_
  refine T_scod hi fl_J0_15 dJ0_coder_7d493_7 ?_
  refine T_goto 14 dJ0_coder_7d493_10 (by decide) ?_
  refine T_zret (ty := .byte) rfl (by decide) dJ0_coder_7d493_14 ?_
  exact ⟨rfl, rfl⟩
set_option maxHeartbeats 4000000 in
set_option maxRecDepth 100000 in
theorem k_J0_isLatin1_aae02 {X : Cx} {l : Launch} {σ : Hp} {i : Nat} (hi : i < 2) : Con X l yJ0_isLatin1_aae02 cJ0_isLatin1_aae02 1 (some .boolean) 0 [.ref (sA X i)] σ (Ex (some (.int (nI 1))) σ) := by
  refine Con_of [some (.ref (sA X i))] (by decide) rfl (Nat.le_of_ble_eq_true rfl) ?_
  refine T_scmp fl_J0_38 dJ0_isLatin1_aae02_0 ?_
  refine T_if_eq 17 dJ0_isLatin1_aae02_3 (by decide) (fun h3 => (absurd h3 (by decide))) (fun h3 => ?_)
  refine T_aload_n dJ0_isLatin1_aae02_6 rfl rfl ?_
  refine T_scod hi fl_J0_15 dJ0_isLatin1_aae02_7 ?_
  refine T_if_ne 17 dJ0_isLatin1_aae02_10 (by decide) (fun h10 => (absurd rfl h10)) (fun h10 => ?_)
  refine T_iconst (v := nI 1) dJ0_isLatin1_aae02_13 rfl ?_
  refine T_goto 18 dJ0_isLatin1_aae02_14 (by decide) ?_
  refine T_zret (ty := .boolean) rfl (by decide) dJ0_isLatin1_aae02_18 ?_
  exact ⟨rfl, rfl⟩
set_option maxHeartbeats 4000000 in
set_option maxRecDepth 100000 in
theorem k_J0_length_8abf5 {X : Cx} {l : Launch} {σ : Hp} {i : Nat} (hi : i < 2) : Con X l yJ0_length_8abf5 cJ0_length_8abf5 1 (some .int) 1 [.ref (sA X i)] σ (Ex (some (.int (nI 6))) σ) := by
  refine Con_of [some (.ref (sA X i))] (by decide) rfl (Nat.le_of_ble_eq_true rfl) ?_
  refine T_aload_n dJ0_length_8abf5_0 rfl rfl ?_
  refine T_sval hi fl_J0_9 dJ0_length_8abf5_1 ?_
  refine T_slen hi dJ0_length_8abf5_4 ?_
  refine T_aload_n dJ0_length_8abf5_5 rfl rfl ?_
  refine T_vi (Rc_str hi) (k_J0_coder_7d493 hi) ml_J0_335 im_yJ0_coder_7d493 se_RJ0_yJ0_coder_7d493 ini_RJ0 co_yJ0_coder_7d493 rfl de_J0_coder_7d493 (by decide) (by decide) rfl (Nat.le_of_ble_eq_true rfl) dJ0_length_8abf5_6 ?_
  refine T_ishr dJ0_length_8abf5_9 ?_
  refine T_iret rfl dJ0_length_8abf5_10 ?_
  exact ⟨by decide, rfl⟩
set_option maxHeartbeats 4000000 in
set_option maxRecDepth 100000 in
theorem k_J3_checkIndex_8e157 {X : Cx} {l : Launch} {σ : Hp} {j n : Nat} {v : Value} (hv : v.category = 1) (hj : j < n) (hn : n < 1000) : Con X l yJ3_checkIndex_8e157 cJ3_checkIndex_8e157 3 (some .int) 0 [.int (nI j), .int (nI n), v] σ (Ex (some (.int (nI j))) σ) := by
  refine Con_of [some (.int (nI j)), some (.int (nI n)), some v] (by decide) rfl (by simp only [lg_sl, List.flatMap_cons, List.flatMap_nil, hv]; exact Nat.le_of_ble_eq_true rfl) ?_
  refine T_iload_n dJ3_checkIndex_8e157_0 rfl rfl ?_
  refine T_if_lt 9 dJ3_checkIndex_8e157_1 (by decide) (fun h1 => (absurd h1 (nI_pos (by omega)))) (fun h1 => ?_)
  refine T_iload_n dJ3_checkIndex_8e157_4 rfl rfl ?_
  refine T_iload_n dJ3_checkIndex_8e157_5 rfl rfl ?_
  refine T_icmp_lt 16 dJ3_checkIndex_8e157_6 (by decide) (fun h6 => ?_) (fun h6 => (absurd (nI_lt hj (by omega)) h6))
  refine T_iload_n dJ3_checkIndex_8e157_16 rfl rfl ?_
  refine T_iret rfl dJ3_checkIndex_8e157_17 ?_
  exact ⟨rfl, rfl⟩
set_option maxHeartbeats 4000000 in
set_option maxRecDepth 100000 in
theorem k_J0_checkIndex_df160 {X : Cx} {l : Launch} {σ : Hp} {j n : Nat} (hj : j < n) (hn : n < 1000) : Con X l yJ0_checkIndex_df160 cJ0_checkIndex_df160 2 none 1 [.int (nI j), .int (nI n)] σ (Ex none σ) := by
  refine Con_of [some (.int (nI j)), some (.int (nI n))] (by decide) rfl (Nat.le_of_ble_eq_true rfl) ?_
  refine T_iload_n dJ0_checkIndex_df160_0 rfl rfl ?_
  refine T_iload_n dJ0_checkIndex_df160_1 rfl rfl ?_
  refine T_sfmt fl_J0_1053 dJ0_checkIndex_df160_2 (fun v hv => ?_)
  refine T_si (k_J3_checkIndex_8e157 hv hj hn) ml_J0_1059 sm_yJ3_checkIndex_8e157 ini_RJ3 co_yJ3_checkIndex_8e157 de_J3_checkIndex_8e157 (by decide) (by decide) rfl (Nat.le_of_ble_eq_true rfl) dJ0_checkIndex_df160_5 ?_
  refine T_pop dJ0_checkIndex_df160_8 rfl ?_
  refine T_vret rfl dJ0_checkIndex_df160_9 ?_
  exact ⟨rfl, rfl⟩
set_option maxHeartbeats 4000000 in
set_option maxRecDepth 100000 in
theorem k_J1_charAt_3b067 {X : Cx} {l : Launch} {σ : Hp} {i j : Nat} (hi : i < 2) (hj : j < 6) : Con X l yJ1_charAt_3b067 cJ1_charAt_3b067 2 (some .char) 2 [.ref (sV X i), .int (nI j)] σ (Ex (some (.int (sB i j))) σ) := by
  refine Con_of [some (.ref (sV X i)), some (.int (nI j))] (by decide) rfl (Nat.le_of_ble_eq_true rfl) ?_
  refine T_iload_n dJ1_charAt_3b067_0 rfl rfl ?_
  refine T_aload_n dJ1_charAt_3b067_1 rfl rfl ?_
  refine T_slen hi dJ1_charAt_3b067_2 ?_
  refine T_sv (k_J0_checkIndex_df160 hj (by decide)) ml_J1_9 sm_yJ0_checkIndex_df160 ini_RJ0 co_yJ0_checkIndex_df160 de_J0_checkIndex_df160 (by decide) (by decide) rfl (Nat.le_of_ble_eq_true rfl) dJ1_charAt_3b067_3 ?_
  refine T_aload_n dJ1_charAt_3b067_6 rfl rfl ?_
  refine T_iload_n dJ1_charAt_3b067_7 rfl rfl ?_
  refine T_sbal hi hj dJ1_charAt_3b067_8 ?_
  refine T_sipush (v := nI 255) dJ1_charAt_3b067_9 (by decide) ?_
  refine T_iand dJ1_charAt_3b067_12 ?_
  refine T_i2c dJ1_charAt_3b067_13 (sB_c hi hj).1 ?_
  exact T_zret (ty := .char) rfl (sB_c hi hj).2 dJ1_charAt_3b067_14 ⟨rfl, rfl⟩
set_option maxHeartbeats 4000000 in
set_option maxRecDepth 100000 in
theorem k_J0_charAt_5068e {X : Cx} {l : Launch} {σ : Hp} {i j : Nat} (hi : i < 2) (hj : j < 6) : Con X l yJ0_charAt_5068e cJ0_charAt_5068e 2 (some .char) 3 [.ref (sA X i), .int (nI j)] σ (Ex (some (.int (sB i j))) σ) := by
  refine Con_of [some (.ref (sA X i)), some (.int (nI j))] (by decide) rfl (Nat.le_of_ble_eq_true rfl) ?_
  refine T_aload_n dJ0_charAt_5068e_0 rfl rfl ?_
  refine T_vi (Rc_str hi) (k_J0_isLatin1_aae02 hi) ml_J0_492 im_yJ0_isLatin1_aae02 se_RJ0_yJ0_isLatin1_aae02 ini_RJ0 co_yJ0_isLatin1_aae02 rfl de_J0_isLatin1_aae02 (by decide) (by decide) rfl (Nat.le_of_ble_eq_true rfl) dJ0_charAt_5068e_1 ?_
  refine T_if_eq 16 dJ0_charAt_5068e_4 (by decide) (fun h4 => (absurd h4 (by decide))) (fun h4 => ?_)
  refine T_aload_n dJ0_charAt_5068e_7 rfl rfl ?_
  refine T_sval hi fl_J0_9 dJ0_charAt_5068e_8 ?_
  refine T_iload_n dJ0_charAt_5068e_11 rfl rfl ?_
  refine T_si (k_J1_charAt_3b067 hi hj) ml_J0_495 sm_yJ1_charAt_3b067 ini_RJ1 co_yJ1_charAt_3b067 de_J1_charAt_3b067 (by decide) (by decide) rfl (Nat.le_of_ble_eq_true rfl) dJ0_charAt_5068e_12 ?_
  exact T_zret (ty := .char) rfl (sB_c hi hj).2 dJ0_charAt_5068e_15 ⟨rfl, rfl⟩
