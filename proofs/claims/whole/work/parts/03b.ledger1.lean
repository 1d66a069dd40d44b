set_option maxHeartbeats 4000000 in
set_option maxRecDepth 100000 in
theorem k_X3_slot {X : Cx} {l : Launch} {σ : Hp} {a c : Nat} : Con X l yX3_slot cX3_slot 2 (some .int) 0 [.int (nI a), .int (nI c)] σ (Ex (some (.int (nI (a * 4 + c)))) σ) := by
  refine Con_of [some (.int (nI a)), some (.int (nI c))] (by decide) rfl (Nat.le_of_ble_eq_true rfl) ?_
  refine T_iload_n dX3_slot_0 rfl rfl ?_
  refine T_iconst (v := nI 4) dX3_slot_1 rfl ?_
  first | refine T_imulN dX3_slot_2 ?_ | refine T_imul dX3_slot_2 ?_
  refine T_iload_n dX3_slot_3 rfl rfl ?_
  first | refine T_iaddN dX3_slot_4 ?_ | refine T_iadd dX3_slot_4 ?_
  refine T_iret rfl dX3_slot_5 ?_
  exact ⟨rfl, rfl⟩
set_option maxHeartbeats 4000000 in
set_option maxRecDepth 100000 in
theorem k_X3_hasBit {X : Cx} {l : Launch} {σ : Hp} {s : Int32} {w : Nat} : Con X l yX3_hasBit cX3_hasBit 2 (some .boolean) 0 [.int s, .int (nI w)] σ (Ex (some (.int (if bit s w then nI 1 else nI 0))) σ) := by
  refine Con_of [some (.int s), some (.int (nI w))] (by decide) rfl (Nat.le_of_ble_eq_true rfl) ?_
  refine T_iload_n dX3_hasBit_0 rfl rfl ?_
  refine T_iload_n dX3_hasBit_1 rfl rfl ?_
  refine T_ishr dX3_hasBit_2 ?_
  refine T_iconst (v := nI 1) dX3_hasBit_3 rfl ?_
  refine T_iand dX3_hasBit_4 ?_
  refine T_iconst (v := nI 1) dX3_hasBit_5 rfl ?_
  refine T_icmp_ne 13 dX3_hasBit_6 (by decide) (fun h6 => ?_) (fun h6 => ?_)
  · refine T_iconst (v := nI 0) dX3_hasBit_13 rfl ?_
    refine T_zret (ty := .boolean) rfl (by decide) dX3_hasBit_14 ?_
    exact ⟨by first | rw [if_neg h6] | rw [if_pos h6], rfl⟩
  · refine T_iconst (v := nI 1) dX3_hasBit_9 rfl ?_
    refine T_goto 14 dX3_hasBit_10 (by decide) ?_
    refine T_zret (ty := .boolean) rfl (by decide) dX3_hasBit_14 ?_
    exact ⟨by first | rw [if_neg h6] | rw [if_pos h6], rfl⟩
set_option maxHeartbeats 4000000 in
set_option maxRecDepth 100000 in
theorem k_X1_allWrites {X : Cx} {l : Launch} {σ0 : Hp} {h : Rg} {r : Nat} (hv1 : Lv X 1 r) : Con X l yX1_allWrites cX1_allWrites 1 (some .int) 0 [.ref (adr X 1 r 0)] (setR σ0 1 r h) (Ex (some (.int (allS h))) (setR σ0 1 r h)) := by
  refine Con_of [some (.ref (adr X 1 r 0))] (by decide) rfl (Nat.le_of_ble_eq_true rfl) ?_
  refine T_iconst (v := nI 1) dX1_allWrites_0 rfl ?_
  refine T_aload_n dX1_allWrites_1 rfl rfl ?_
  refine T_g1F hv1 2 (by decide) fl_X1_55 rfl dX1_allWrites_2 ?_
  refine T_ishl dX1_allWrites_5 ?_
  refine T_iconst (v := nI 1) dX1_allWrites_6 rfl ?_
  refine T_isub dX1_allWrites_7 ?_
  refine T_iret rfl dX1_allWrites_8 ?_
  exact ⟨rfl, rfl⟩
set_option maxHeartbeats 4000000 in
set_option maxRecDepth 100000 in
theorem k_X1_weightOf {X : Cx} {l : Launch} {σ0 : Hp} {h : Rg} {r : Nat} {s : Int32} (hv1 : Lv X 1 r) (hw : Wf h) : Con X l yX1_weightOf cX1_weightOf 4 (some .int) 1 [.ref (adr X 1 r 0), .int s] (setR σ0 1 r h) (Ex (some (.int (wSum (h 10) s (nW h)))) (setR σ0 1 r h)) := by
  refine Con_of [some (.ref (adr X 1 r 0)), some (.int s), none, none] (by decide) rfl (Nat.le_of_ble_eq_true rfl) ?_
  have hW := hw.2.2.2.2
  have hlp : ∀ n k : Nat, k + n = nW h → T X l yX1_weightOf cX1_weightOf 4 (some .int) 1 4 [some (.ref (adr X 1 r 0)), some (.int s), some (.int (wSum (h 10) s k)), some (.int (nI k))] [] (setR σ0 1 r h) (Ex (some (.int (wSum (h 10) s (nW h)))) (setR σ0 1 r h)) := by
    intro n
    induction n with
    | zero =>
      intro k hk
      have hk : k = nW h := by omega
      subst hk
      refine T_iload_n dX1_weightOf_4 rfl rfl ?_
      refine T_aload_n dX1_weightOf_5 rfl rfl ?_
      refine T_g1F hv1 2 (by decide) fl_X1_55 rfl dX1_weightOf_6 ?_
      refine T_icmp_ge 35 dX1_weightOf_9 (by decide) (fun h9 => ?_) (fun h9 => (absurd (by rw [hw.2.2.2.1]; exact nI_le (Nat.le_refl _) (by omega)) h9))
      refine T_iload_n dX1_weightOf_35 rfl rfl ?_
      refine T_iret rfl dX1_weightOf_36 ?_
      exact ⟨rfl, rfl⟩
    | succ n ih =>
      intro k hk
      have hnx := ih (k + 1) (by omega)
      have hk : k < nW h := by omega
      refine T_iload_n dX1_weightOf_4 rfl rfl ?_
      refine T_aload_n dX1_weightOf_5 rfl rfl ?_
      refine T_g1F hv1 2 (by decide) fl_X1_55 rfl dX1_weightOf_6 ?_
      refine T_icmp_ge 35 dX1_weightOf_9 (by decide) (fun h9 => (absurd (hw.2.2.2.1 ▸ h9) (nI_ge hk (by omega)))) (fun h9 => ?_)
      refine T_iload_n dX1_weightOf_12 rfl rfl ?_
      refine T_iload_n dX1_weightOf_13 rfl rfl ?_
      refine T_callSN k_X3_hasBit (fun _ h => h.2.2.2.1) sm_yX3_hasBit ini_RX3 co_yX3_hasBit de_X3_hasBit (by decide) (by decide) rfl (Nat.le_of_ble_eq_true rfl) dX1_weightOf_14 ?_
      refine T_if_eq 29 dX1_weightOf_17 (by decide) (fun h17 => ?_) (fun h17 => ?_)
      · first | refine T_iincN3 dX1_weightOf_29 rfl (by decide) ?_ | refine T_iinc3 dX1_weightOf_29 rfl rfl (by decide) ?_
        refine T_goto 4 dX1_weightOf_32 (by decide) ?_
        first | (rw [wSum, if_pos (b01_1 h17)] at hnx; exact hnx) | (rw [wSum, if_neg (b01_0 h17)] at hnx; exact hnx)
      · refine T_iload_n dX1_weightOf_20 rfl rfl ?_
        refine T_aload_n dX1_weightOf_21 rfl rfl ?_
        refine T_g1F hv1 12 (by decide) fl_X1_39 rfl dX1_weightOf_22 ?_
        refine T_iload_n dX1_weightOf_25 rfl rfl ?_
        refine T_ialdF (hv1 _ (by decide)) rfl (Nat.le_of_ble_eq_true rfl) _ (by omega) rfl dX1_weightOf_26 ?_
        first | refine T_iaddN dX1_weightOf_27 ?_ | refine T_iadd dX1_weightOf_27 ?_
        refine T_istore2 dX1_weightOf_28 rfl (by decide) ?_
        first | refine T_iincN3 dX1_weightOf_29 rfl (by decide) ?_ | refine T_iinc3 dX1_weightOf_29 rfl rfl (by decide) ?_
        refine T_goto 4 dX1_weightOf_32 (by decide) ?_
        first | (rw [wSum, if_pos (b01_1 h17)] at hnx; exact hnx) | (rw [wSum, if_neg (b01_0 h17)] at hnx; exact hnx)
  refine T_iconst (v := nI 0) dX1_weightOf_0 rfl ?_
  refine T_istore2 dX1_weightOf_1 rfl (by decide) ?_
  refine T_iconst (v := nI 0) dX1_weightOf_2 rfl ?_
  refine T_istore3 dX1_weightOf_3 rfl (by decide) ?_
  exact hlp (nW h) 0 (by omega)
set_option maxHeartbeats 4000000 in
set_option maxRecDepth 100000 in
theorem k_X1_writesBy {X : Cx} {l : Launch} {σ0 : Hp} {h : Rg} {r : Nat} {c : Nat} (hv1 : Lv X 1 r) (hw : Wf h) : Con X l yX1_writesBy cX1_writesBy 4 (some .int) 0 [.ref (adr X 1 r 0), .int (nI c)] (setR σ0 1 r h) (Ex (some (.int (wBy (h 8) (nI c) (nW h)))) (setR σ0 1 r h)) := by
  refine Con_of [some (.ref (adr X 1 r 0)), some (.int (nI c)), none, none] (by decide) rfl (Nat.le_of_ble_eq_true rfl) ?_
  have hW := hw.2.2.2.2
  have hlp : ∀ n k : Nat, k + n = nW h → T X l yX1_writesBy cX1_writesBy 4 (some .int) 0 4 [some (.ref (adr X 1 r 0)), some (.int (nI c)), some (.int (wBy (h 8) (nI c) k)), some (.int (nI k))] [] (setR σ0 1 r h) (Ex (some (.int (wBy (h 8) (nI c) (nW h)))) (setR σ0 1 r h)) := by
    intro n
    induction n with
    | zero =>
      intro k hk
      have hk : k = nW h := by omega
      subst hk
      refine T_iload_n dX1_writesBy_4 rfl rfl ?_
      refine T_aload_n dX1_writesBy_5 rfl rfl ?_
      refine T_g1F hv1 2 (by decide) fl_X1_55 rfl dX1_writesBy_6 ?_
      refine T_icmp_ge 34 dX1_writesBy_9 (by decide) (fun h9 => ?_) (fun h9 => (absurd (by rw [hw.2.2.2.1]; exact nI_le (Nat.le_refl _) (by omega)) h9))
      refine T_iload_n dX1_writesBy_34 rfl rfl ?_
      refine T_iret rfl dX1_writesBy_35 ?_
      exact ⟨rfl, rfl⟩
    | succ n ih =>
      intro k hk
      have hnx := ih (k + 1) (by omega)
      have hk : k < nW h := by omega
      refine T_iload_n dX1_writesBy_4 rfl rfl ?_
      refine T_aload_n dX1_writesBy_5 rfl rfl ?_
      refine T_g1F hv1 2 (by decide) fl_X1_55 rfl dX1_writesBy_6 ?_
      refine T_icmp_ge 34 dX1_writesBy_9 (by decide) (fun h9 => (absurd (hw.2.2.2.1 ▸ h9) (nI_ge hk (by omega)))) (fun h9 => ?_)
      refine T_aload_n dX1_writesBy_12 rfl rfl ?_
      refine T_g1F hv1 10 (by decide) fl_X1_33 rfl dX1_writesBy_13 ?_
      refine T_iload_n dX1_writesBy_16 rfl rfl ?_
      refine T_ialdF (hv1 _ (by decide)) rfl (Nat.le_of_ble_eq_true rfl) _ (by omega) rfl dX1_writesBy_17 ?_
      refine T_iload_n dX1_writesBy_18 rfl rfl ?_
      refine T_icmp_ne 28 dX1_writesBy_19 (by decide) (fun h19 => ?_) (fun h19 => ?_)
      · first | refine T_iincN3 dX1_writesBy_28 rfl (by decide) ?_ | refine T_iinc3 dX1_writesBy_28 rfl rfl (by decide) ?_
        refine T_goto 4 dX1_writesBy_31 (by decide) ?_
        first | (rw [wBy, if_pos h19] at hnx; exact hnx) | (rw [wBy, if_neg h19] at hnx; exact hnx)
      · refine T_iload_n dX1_writesBy_22 rfl rfl ?_
        refine T_iconst (v := nI 1) dX1_writesBy_23 rfl ?_
        refine T_iload_n dX1_writesBy_24 rfl rfl ?_
        refine T_ishl dX1_writesBy_25 ?_
        refine T_ior dX1_writesBy_26 ?_
        refine T_istore2 dX1_writesBy_27 rfl (by decide) ?_
        first | refine T_iincN3 dX1_writesBy_28 rfl (by decide) ?_ | refine T_iinc3 dX1_writesBy_28 rfl rfl (by decide) ?_
        refine T_goto 4 dX1_writesBy_31 (by decide) ?_
        first | (rw [wBy, if_pos h19] at hnx; exact hnx) | (rw [wBy, if_neg h19] at hnx; exact hnx)
  refine T_iconst (v := nI 0) dX1_writesBy_0 rfl ?_
  refine T_istore2 dX1_writesBy_1 rfl (by decide) ?_
  refine T_iconst (v := nI 0) dX1_writesBy_2 rfl ?_
  refine T_istore3 dX1_writesBy_3 rfl (by decide) ?_
  exact hlp (nW h) 0 (by omega)
