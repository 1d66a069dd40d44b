set_option maxHeartbeats 4000000 in
set_option maxRecDepth 100000 in
theorem k_X1_pull {X : Cx} {l : Launch} {σ0 : Hp} {h : Rg} {r : Nat} {a c : Nat} (hv1 : Lv X 1 r) (hw : Wf h) (ha : a < 4) (hc : c < 4) : Con X l yX1_pull cX1_pull 4 none 1 [.ref (adr X 1 r 0), .int (nI a), .int (nI c)] (setR σ0 1 r h) (Ex none (setR σ0 1 r (pullS h a c))) := by
  refine Con_of [some (.ref (adr X 1 r 0)), some (.int (nI a)), some (.int (nI c)), none] (by decide) rfl (Nat.le_of_ble_eq_true rfl) ?_
  have hN := hw.2.2.1
  have hck : ∀ k, (heaS (pul0S h a c) a c k) 0 0 = nI (nC h) := fun k => by rw [heaS_k _ _ _ (by decide)]; exact hw.1
  have hlp : ∀ n k : Nat, k + n = nC h → T X l yX1_pull cX1_pull 4 none 1 42 [some (.ref (adr X 1 r 0)), some (.int (nI a)), some (.int (nI c)), some (.int (nI k))] [] (setR σ0 1 r (heaS (pul0S h a c) a c k)) (Ex none (setR σ0 1 r (pullS h a c))) := by
    intro n
    induction n with
    | zero =>
      intro k hk
      have hk : k = nC h := by omega
      subst hk
      refine T_iload_n dX1_pull_42 rfl rfl ?_
      refine T_aload_n dX1_pull_43 rfl rfl ?_
      refine T_g1F hv1 0 (by decide) fl_X1_48 rfl dX1_pull_44 ?_
      refine T_icmp_ge 99 dX1_pull_47 (by decide) (fun h47 => ?_) (fun h47 => (absurd (by rw [hck]; exact nI_le (Nat.le_refl _) (by omega)) h47))
      refine T_vret rfl dX1_pull_99 ?_
      exact ⟨rfl, rfl⟩
    | succ n ih =>
      intro k hk
      have hnx := ih (k + 1) (by omega)
      have hk : k < nC h := by omega
      refine T_iload_n dX1_pull_42 rfl rfl ?_
      refine T_aload_n dX1_pull_43 rfl rfl ?_
      refine T_g1F hv1 0 (by decide) fl_X1_48 rfl dX1_pull_44 ?_
      refine T_icmp_ge 99 dX1_pull_47 (by decide) (fun h47 => (absurd ((hck k) ▸ h47) (nI_ge hk (by omega)))) (fun h47 => ?_)
      refine T_iload_n dX1_pull_50 rfl rfl ?_
      refine T_iload_n dX1_pull_51 rfl rfl ?_
      refine T_icmp_eq 93 dX1_pull_52 (by decide) (fun h52 => ?_) (fun h52 => ?_)
      · first | refine T_iincN3 dX1_pull_93 rfl (by decide) ?_ | refine T_iinc3 dX1_pull_93 rfl rfl (by decide) ?_
        refine T_goto 42 dX1_pull_96 (by decide) ?_
        first | (rw [heaS, if_pos (nIe h52 (by omega) (by omega))] at hnx; exact hnx) | (rw [heaS, if_neg (nIn h52), if_pos (nIe h57 (by omega) (by omega))] at hnx; exact hnx) | (rw [heaS, if_neg (nIn h52), if_neg (nIn h57)] at hnx; exact hnx)
      · refine T_iload_n dX1_pull_55 rfl rfl ?_
        refine T_iload_n dX1_pull_56 rfl rfl ?_
        refine T_icmp_eq 93 dX1_pull_57 (by decide) (fun h57 => ?_) (fun h57 => ?_)
        · first | refine T_iincN3 dX1_pull_93 rfl (by decide) ?_ | refine T_iinc3 dX1_pull_93 rfl rfl (by decide) ?_
          refine T_goto 42 dX1_pull_96 (by decide) ?_
          first | (rw [heaS, if_pos (nIe h52 (by omega) (by omega))] at hnx; exact hnx) | (rw [heaS, if_neg (nIn h52), if_pos (nIe h57 (by omega) (by omega))] at hnx; exact hnx) | (rw [heaS, if_neg (nIn h52), if_neg (nIn h57)] at hnx; exact hnx)
        · refine T_aload_n dX1_pull_60 rfl rfl ?_
          refine T_g1F hv1 8 (by decide) fl_X1_27 rfl dX1_pull_61 ?_
          refine T_iload_n dX1_pull_64 rfl rfl ?_
          refine T_iload_n dX1_pull_65 rfl rfl ?_
          refine T_callSN k_X3_slot (fun _ h => h.2.2.1) sm_yX3_slot ini_RX3 co_yX3_slot de_X3_slot (by decide) (by decide) rfl (Nat.le_of_ble_eq_true rfl) dX1_pull_66 ?_
          refine T_aload_n dX1_pull_69 rfl rfl ?_
          refine T_g1F hv1 8 (by decide) fl_X1_27 rfl dX1_pull_70 ?_
          refine T_iload_n dX1_pull_73 rfl rfl ?_
          refine T_iload_n dX1_pull_74 rfl rfl ?_
          refine T_callSN k_X3_slot (fun _ h => h.2.2.1) sm_yX3_slot ini_RX3 co_yX3_slot de_X3_slot (by decide) (by decide) rfl (Nat.le_of_ble_eq_true rfl) dX1_pull_75 ?_
          refine T_ialdF (hv1 _ (by decide)) rfl (Nat.le_of_ble_eq_true rfl) _ (by omega) rfl dX1_pull_78 ?_
          refine T_aload_n dX1_pull_79 rfl rfl ?_
          refine T_g1F hv1 8 (by decide) fl_X1_27 rfl dX1_pull_80 ?_
          refine T_iload_n dX1_pull_83 rfl rfl ?_
          refine T_iload_n dX1_pull_84 rfl rfl ?_
          refine T_callSN k_X3_slot (fun _ h => h.2.2.1) sm_yX3_slot ini_RX3 co_yX3_slot de_X3_slot (by decide) (by decide) rfl (Nat.le_of_ble_eq_true rfl) dX1_pull_85 ?_
          refine T_ialdF (hv1 _ (by decide)) rfl (Nat.le_of_ble_eq_true rfl) _ (by omega) rfl dX1_pull_88 ?_
          refine T_max ml_X1_120 sm_Lib_Math_max_name ini__java_lang_Math_ co_Lib_Math_max_name (by decide) (Nat.le_of_ble_eq_true rfl) dX1_pull_89 ?_
          refine T_iastF (hv1 _ (by decide)) (fun _ => rfl) (Nat.le_of_ble_eq_true rfl) _ (by omega) rfl dX1_pull_92 ?_
          first | refine T_iincN3 dX1_pull_93 rfl (by decide) ?_ | refine T_iinc3 dX1_pull_93 rfl rfl (by decide) ?_
          refine T_goto 42 dX1_pull_96 (by decide) ?_
          first | (rw [heaS, if_pos (nIe h52 (by omega) (by omega))] at hnx; exact hnx) | (rw [heaS, if_neg (nIn h52), if_pos (nIe h57 (by omega) (by omega))] at hnx; exact hnx) | (rw [heaS, if_neg (nIn h52), if_neg (nIn h57)] at hnx; exact hnx)
  refine T_aload_n dX1_pull_0 rfl rfl ?_
  refine T_iload_n dX1_pull_1 rfl rfl ?_
  refine T_aload_n dX1_pull_2 rfl rfl ?_
  refine T_g1F hv1 6 (by decide) fl_X1_21 rfl dX1_pull_3 ?_
  refine T_iload_n dX1_pull_6 rfl rfl ?_
  refine T_ialdF (hv1 _ (by decide)) rfl (Nat.le_of_ble_eq_true rfl) _ (by omega) rfl dX1_pull_7 ?_
  refine T_vv (Rc_of (hv1 0 (by decide)) rfl rfl) (k_X1_learn hv1 (by omega)) ml_X1_113 im_yX1_learn se_RX1_yX1_learn ini_RX1 co_yX1_learn rfl de_X1_learn (by decide) (by decide) rfl (Nat.le_of_ble_eq_true rfl) dX1_pull_8 ?_
  refine T_aload_n dX1_pull_11 rfl rfl ?_
  refine T_g1F hv1 7 (by decide) fl_X1_24 rfl dX1_pull_12 ?_
  refine T_iload_n dX1_pull_15 rfl rfl ?_
  refine T_dup2 dX1_pull_16 rfl rfl ?_
  refine T_ialdF (hv1 _ (by decide)) rfl (Nat.le_of_ble_eq_true rfl) _ (by omega) rfl dX1_pull_17 ?_
  refine T_aload_n dX1_pull_18 rfl rfl ?_
  refine T_g1F hv1 7 (by decide) fl_X1_24 rfl dX1_pull_19 ?_
  refine T_iload_n dX1_pull_22 rfl rfl ?_
  refine T_ialdF (hv1 _ (by decide)) rfl (Nat.le_of_ble_eq_true rfl) _ (by omega) rfl dX1_pull_23 ?_
  refine T_ior dX1_pull_24 ?_
  refine T_iastF (hv1 _ (by decide)) (fun _ => rfl) (Nat.le_of_ble_eq_true rfl) _ (by omega) rfl dX1_pull_25 ?_
  refine T_aload_n dX1_pull_26 rfl rfl ?_
  refine T_g1F hv1 8 (by decide) fl_X1_27 rfl dX1_pull_27 ?_
  refine T_iload_n dX1_pull_30 rfl rfl ?_
  refine T_iload_n dX1_pull_31 rfl rfl ?_
  refine T_callSN k_X3_slot (fun _ h => h.2.2.1) sm_yX3_slot ini_RX3 co_yX3_slot de_X3_slot (by decide) (by decide) rfl (Nat.le_of_ble_eq_true rfl) dX1_pull_32 ?_
  refine T_aload_n dX1_pull_35 rfl rfl ?_
  refine T_g1F hv1 1 (by decide) fl_X1_52 rfl dX1_pull_36 ?_
  refine T_iastF (hv1 _ (by decide)) (fun _ => rfl) (Nat.le_of_ble_eq_true rfl) _ (by omega) rfl dX1_pull_39 ?_
  refine T_iconst (v := nI 0) dX1_pull_40 rfl ?_
  refine T_istore3 dX1_pull_41 rfl (by decide) ?_
  exact hlp (nC h) 0 (by omega)
set_option maxHeartbeats 4000000 in
set_option maxRecDepth 100000 in
theorem k_X1_read {X : Cx} {l : Launch} {σ0 : Hp} {h : Rg} {r : Nat} {a : Nat} (hv1 : Lv X 1 r) (hw : Wf h) (ha : a < 4) : Con X l yX1_read cX1_read 4 (some .int) 2 [.ref (adr X 1 r 0), .int (nI a)] (setR σ0 1 r h) (Ex (some (.int (nI (readS h a).2))) (setR σ0 1 r (readS h a).1)) := by
  refine Con_of [some (.ref (adr X 1 r 0)), some (.int (nI a)), none, none] (by decide) rfl (Nat.le_of_ble_eq_true rfl) ?_
  have hN := hw.2.2.1
  have hwk : ∀ k, Wf (redS h a k).1 := fun k => hw.congr (redS_0 _ _ k)
  have hck : ∀ k, (redS h a k).1 0 0 = nI (nC h) := fun k => by rw [redS_0]; exact hw.1
  have hlp : ∀ n k : Nat, k + n = nC h → T X l yX1_read cX1_read 4 (some .int) 2 4 [some (.ref (adr X 1 r 0)), some (.int (nI a)), some (.int (nI (redS h a k).2)), some (.int (nI k))] [] (setR σ0 1 r (redS h a k).1) (Ex (some (.int (nI (readS h a).2))) (setR σ0 1 r (readS h a).1)) := by
    intro n
    induction n with
    | zero =>
      intro k hk
      have hk : k = nC h := by omega
      subst hk
      refine T_iload_n dX1_read_4 rfl rfl ?_
      refine T_aload_n dX1_read_5 rfl rfl ?_
      refine T_g1F hv1 0 (by decide) fl_X1_48 rfl dX1_read_6 ?_
      refine T_icmp_ge 56 dX1_read_9 (by decide) (fun h9 => ?_) (fun h9 => (absurd (by rw [hck]; exact nI_le (Nat.le_refl _) (by omega)) h9))
      refine T_aload_n dX1_read_56 rfl rfl ?_
      refine T_iload_n dX1_read_57 rfl rfl ?_
      refine T_vi (Rc_of (hv1 0 (by decide)) rfl rfl) (k_X1_slow hv1 (by omega)) ml_X1_126 im_yX1_slow se_RX1_yX1_slow ini_RX1 co_yX1_slow rfl de_X1_slow (by decide) (by decide) rfl (Nat.le_of_ble_eq_true rfl) dX1_read_58 ?_
      refine T_aload_n dX1_read_61 rfl rfl ?_
      refine T_g1F hv1 4 (by decide) fl_X1_15 rfl dX1_read_62 ?_
      refine T_iload_n dX1_read_65 rfl rfl ?_
      refine T_ialdF (hv1 _ (by decide)) rfl (Nat.le_of_ble_eq_true rfl) _ (by omega) rfl dX1_read_66 ?_
      refine T_icmp_le 85 dX1_read_67 (by decide) (fun h67 => ?_) (fun h67 => ?_)
      · refine T_iload_n dX1_read_85 rfl rfl ?_
        refine T_iret rfl dX1_read_86 ?_
        first | (refine ⟨?_, ?_⟩ <;> rw [readS, if_pos h67]) | (refine ⟨?_, ?_⟩ <;> rw [readS, if_neg h67]; exact congrArg (fun z => some (Value.int z)) (nI_add _ 2))
      · refine T_aload_n dX1_read_70 rfl rfl ?_
        refine T_iconst (v := nI 0) dX1_read_71 rfl ?_
        refine T_iload_n dX1_read_72 rfl rfl ?_
        refine T_vv (Rc_of (hv1 0 (by decide)) rfl rfl) (k_X1_pull hv1 (hwk _) (by omega) (by omega)) ml_X1_123 im_yX1_pull se_RX1_yX1_pull ini_RX1 co_yX1_pull rfl de_X1_pull (by decide) (by decide) rfl (Nat.le_of_ble_eq_true rfl) dX1_read_73 ?_
        refine T_aload_n dX1_read_76 rfl rfl ?_
        refine T_iload_n dX1_read_77 rfl rfl ?_
        refine T_iconst (v := nI 0) dX1_read_78 rfl ?_
        refine T_vv (Rc_of (hv1 0 (by decide)) rfl rfl) (k_X1_pull hv1 ((hwk _).congr (pullS_0 _ _ _)) (by omega) (by omega)) ml_X1_123 im_yX1_pull se_RX1_yX1_pull ini_RX1 co_yX1_pull rfl de_X1_pull (by decide) (by decide) rfl (Nat.le_of_ble_eq_true rfl) dX1_read_79 ?_
        refine T_iinc2 dX1_read_82 rfl rfl (by decide) ?_
        refine T_iload_n dX1_read_85 rfl rfl ?_
        refine T_iret rfl dX1_read_86 ?_
        first | (refine ⟨?_, ?_⟩ <;> rw [readS, if_pos h67]) | (refine ⟨?_, ?_⟩ <;> rw [readS, if_neg h67]; exact congrArg (fun z => some (Value.int z)) (nI_add _ 2))
    | succ n ih =>
      intro k hk
      have hnx := ih (k + 1) (by omega)
      have hk : k < nC h := by omega
      refine T_iload_n dX1_read_4 rfl rfl ?_
      refine T_aload_n dX1_read_5 rfl rfl ?_
      refine T_g1F hv1 0 (by decide) fl_X1_48 rfl dX1_read_6 ?_
      refine T_icmp_ge 56 dX1_read_9 (by decide) (fun h9 => (absurd ((hck k) ▸ h9) (nI_ge hk (by omega)))) (fun h9 => ?_)
      refine T_iload_n dX1_read_12 rfl rfl ?_
      refine T_iload_n dX1_read_13 rfl rfl ?_
      refine T_icmp_eq 50 dX1_read_14 (by decide) (fun h14 => ?_) (fun h14 => ?_)
      · first | refine T_iincN3 dX1_read_50 rfl (by decide) ?_ | refine T_iinc3 dX1_read_50 rfl rfl (by decide) ?_
        refine T_goto 4 dX1_read_53 (by decide) ?_
        first | (rw [redS, if_pos (nIe h14 (by omega) (by omega))] at hnx; exact hnx) | (rw [redS, if_neg (nIn h14), if_pos h38] at hnx; exact hnx) | (rw [redS, if_neg (nIn h14), if_neg h38] at hnx; exact hnx)
      · refine T_aload_n dX1_read_17 rfl rfl ?_
        refine T_g1F hv1 1 (by decide) fl_X1_52 rfl dX1_read_18 ?_
        refine T_aload_n dX1_read_21 rfl rfl ?_
        refine T_g1F hv1 8 (by decide) fl_X1_27 rfl dX1_read_22 ?_
        refine T_iload_n dX1_read_25 rfl rfl ?_
        refine T_iload_n dX1_read_26 rfl rfl ?_
        refine T_callSN k_X3_slot (fun _ h => h.2.2.1) sm_yX3_slot ini_RX3 co_yX3_slot de_X3_slot (by decide) (by decide) rfl (Nat.le_of_ble_eq_true rfl) dX1_read_27 ?_
        refine T_ialdF (hv1 _ (by decide)) rfl (Nat.le_of_ble_eq_true rfl) _ (by omega) rfl dX1_read_30 ?_
        refine T_isub dX1_read_31 ?_
        refine T_aload_n dX1_read_32 rfl rfl ?_
        refine T_g1F hv1 5 (by decide) fl_X1_18 rfl dX1_read_33 ?_
        refine T_iload_n dX1_read_36 rfl rfl ?_
        refine T_ialdF (hv1 _ (by decide)) rfl (Nat.le_of_ble_eq_true rfl) _ (by omega) rfl dX1_read_37 ?_
        refine T_icmp_le 50 dX1_read_38 (by decide) (fun h38 => ?_) (fun h38 => ?_)
        · first | refine T_iincN3 dX1_read_50 rfl (by decide) ?_ | refine T_iinc3 dX1_read_50 rfl rfl (by decide) ?_
          refine T_goto 4 dX1_read_53 (by decide) ?_
          first | (rw [redS, if_pos (nIe h14 (by omega) (by omega))] at hnx; exact hnx) | (rw [redS, if_neg (nIn h14), if_pos h38] at hnx; exact hnx) | (rw [redS, if_neg (nIn h14), if_neg h38] at hnx; exact hnx)
        · refine T_aload_n dX1_read_41 rfl rfl ?_
          refine T_iload_n dX1_read_42 rfl rfl ?_
          refine T_iload_n dX1_read_43 rfl rfl ?_
          refine T_vv (Rc_of (hv1 0 (by decide)) rfl rfl) (k_X1_pull hv1 (hwk k) (by omega) (by omega)) ml_X1_123 im_yX1_pull se_RX1_yX1_pull ini_RX1 co_yX1_pull rfl de_X1_pull (by decide) (by decide) rfl (Nat.le_of_ble_eq_true rfl) dX1_read_44 ?_
          first | refine T_iincN2 dX1_read_47 rfl (by decide) ?_ | refine T_iinc2 dX1_read_47 rfl rfl (by decide) ?_
          first | refine T_iincN3 dX1_read_50 rfl (by decide) ?_ | refine T_iinc3 dX1_read_50 rfl rfl (by decide) ?_
          refine T_goto 4 dX1_read_53 (by decide) ?_
          first | (rw [redS, if_pos (nIe h14 (by omega) (by omega))] at hnx; exact hnx) | (rw [redS, if_neg (nIn h14), if_pos h38] at hnx; exact hnx) | (rw [redS, if_neg (nIn h14), if_neg h38] at hnx; exact hnx)
  refine T_iconst (v := nI 0) dX1_read_0 rfl ?_
  refine T_istore2 dX1_read_1 rfl (by decide) ?_
  refine T_iconst (v := nI 0) dX1_read_2 rfl ?_
  refine T_istore3 dX1_read_3 rfl (by decide) ?_
  exact hlp (nC h) 0 (by omega)
set_option maxHeartbeats 4000000 in
set_option maxRecDepth 100000 in
theorem k_X1_move {X : Cx} {l : Launch} {σ0 : Hp} {h : Rg} {r : Nat} {a c e : Nat} {k : Int32} (hv1 : Lv X 1 r) (ha : a < 4) (hc : c < 4) (he : e < 4) : Con X l yX1_move cX1_move 5 (some .int) 1 [.ref (adr X 1 r 0), .int (nI a), .int (nI c), .int (nI e), .int k] (setR σ0 1 r h) (Ex (some (.int (moveS h a c e k 7 (a * 4 + c)))) (setR σ0 1 r (moveS h a c e k))) := by
  refine Con_of [some (.ref (adr X 1 r 0)), some (.int (nI a)), some (.int (nI c)), some (.int (nI e)), some (.int k)] (by decide) rfl (Nat.le_of_ble_eq_true rfl) ?_
  refine T_aload_n dX1_move_0 rfl rfl ?_
  refine T_g1F hv1 9 (by decide) fl_X1_30 rfl dX1_move_1 ?_
  refine T_iload_n dX1_move_4 rfl rfl ?_
  refine T_iload_n dX1_move_5 rfl rfl ?_
  refine T_callSN k_X3_slot (fun _ h => h.2.2.1) sm_yX3_slot ini_RX3 co_yX3_slot de_X3_slot (by decide) (by decide) rfl (Nat.le_of_ble_eq_true rfl) dX1_move_6 ?_
  refine T_dup2 dX1_move_9 rfl rfl ?_
  refine T_ialdF (hv1 _ (by decide)) rfl (Nat.le_of_ble_eq_true rfl) _ (by omega) rfl dX1_move_10 ?_
  refine T_iload dX1_move_11 rfl ?_
  refine T_isub dX1_move_13 ?_
  refine T_iastF (hv1 _ (by decide)) (fun _ => rfl) (Nat.le_of_ble_eq_true rfl) _ (by omega) rfl dX1_move_14 ?_
  refine T_aload_n dX1_move_15 rfl rfl ?_
  refine T_g1F hv1 9 (by decide) fl_X1_30 rfl dX1_move_16 ?_
  refine T_iload_n dX1_move_19 rfl rfl ?_
  refine T_iload_n dX1_move_20 rfl rfl ?_
  refine T_callSN k_X3_slot (fun _ h => h.2.2.1) sm_yX3_slot ini_RX3 co_yX3_slot de_X3_slot (by decide) (by decide) rfl (Nat.le_of_ble_eq_true rfl) dX1_move_21 ?_
  refine T_dup2 dX1_move_24 rfl rfl ?_
  refine T_ialdF (hv1 _ (by decide)) rfl (Nat.le_of_ble_eq_true rfl) _ (by omega) rfl dX1_move_25 ?_
  refine T_iload dX1_move_26 rfl ?_
  first | refine T_iaddN dX1_move_28 ?_ | refine T_iadd dX1_move_28 ?_
  refine T_iastF (hv1 _ (by decide)) (fun _ => rfl) (Nat.le_of_ble_eq_true rfl) _ (by omega) rfl dX1_move_29 ?_
  refine T_aload_n dX1_move_30 rfl rfl ?_
  refine T_g1F hv1 9 (by decide) fl_X1_30 rfl dX1_move_31 ?_
  refine T_iload_n dX1_move_34 rfl rfl ?_
  refine T_iload_n dX1_move_35 rfl rfl ?_
  refine T_callSN k_X3_slot (fun _ h => h.2.2.1) sm_yX3_slot ini_RX3 co_yX3_slot de_X3_slot (by decide) (by decide) rfl (Nat.le_of_ble_eq_true rfl) dX1_move_36 ?_
  refine T_ialdF (hv1 _ (by decide)) rfl (Nat.le_of_ble_eq_true rfl) _ (by omega) rfl dX1_move_39 ?_
  refine T_iret rfl dX1_move_40 ?_
  exact ⟨rfl, rfl⟩
set_option maxHeartbeats 4000000 in
set_option maxRecDepth 100000 in
theorem k_X1_shareOf {X : Cx} {l : Launch} {σ0 : Hp} {h : Rg} {r : Nat} {t : Int32} {a c : Nat} (hv1 : Lv X 1 r) (hw : Wf h) (ha : a < 4) (hc : c < 4) : Con X l yX1_shareOf cX1_shareOf 6 (some .int) 0 [.ref (adr X 1 r 0), .int t, .int (nI a), .int (nI c)] (setR σ0 1 r h) (Ex (some (.int (shareS (nC h) t a c))) (setR σ0 1 r h)) := by
  refine Con_of [some (.ref (adr X 1 r 0)), some (.int t), some (.int (nI a)), some (.int (nI c)), none, none] (by decide) rfl (Nat.le_of_ble_eq_true rfl) ?_
  have hN := hw.2.2.1
  have hN2 := hw.2.1
  have e4 : h 0 0 - nI 1 = nI (nC h - 1) := by rw [hw.1, pk_sub (by omega)]
  have hz : ¬ nI (nC h - 1) = 0 := nI_ne0 (by omega) (by omega)
  refine T_aload_n dX1_shareOf_0 rfl rfl ?_
  refine T_g1F hv1 0 (by decide) fl_X1_48 rfl dX1_shareOf_1 ?_
  refine T_iconst (v := nI 1) dX1_shareOf_4 rfl ?_
  refine T_isub dX1_shareOf_5 ?_
  rw [e4]
  refine T_istore4 dX1_shareOf_6 rfl (by decide) ?_
  refine T_iload dX1_shareOf_8 rfl ?_
  refine T_iconst (v := nI 1) dX1_shareOf_10 rfl ?_
  refine T_icmp_ge 16 dX1_shareOf_11 (by decide) (fun h11 => ?_) (fun h11 => (absurd (nI_le (a := 1) (b := nC h - 1) (by omega) (by omega)) h11))
  refine T_iload_n dX1_shareOf_16 rfl rfl ?_
  refine T_iload_n dX1_shareOf_17 rfl rfl ?_
  refine T_icmp_le 27 dX1_shareOf_18 (by decide) (fun h18 => ?_) (fun h18 => ?_)
  · have hac : ¬ a < c := fun q => absurd (nI_lt q (by omega)) (Int32.not_lt.mpr h18)
    refine T_iload_n dX1_shareOf_27 rfl rfl ?_
    refine T_istore5 dX1_shareOf_28 rfl (by decide) ?_
    refine T_iload_n dX1_shareOf_30 rfl rfl ?_
    refine T_iload dX1_shareOf_31 rfl ?_
    refine T_idiv dX1_shareOf_33 hz ?_
    refine T_iload dX1_shareOf_34 rfl ?_
    refine T_iload_n dX1_shareOf_36 rfl rfl ?_
    refine T_iload dX1_shareOf_37 rfl ?_
    refine T_irem dX1_shareOf_39 hz ?_
    refine T_icmp_ge 47 dX1_shareOf_40 (by decide) (fun h40 => ?_) (fun h40 => ?_)
    · refine T_iconst (v := nI 0) dX1_shareOf_47 rfl ?_
      first | refine T_iaddN dX1_shareOf_48 ?_ | refine T_iadd dX1_shareOf_48 ?_
      refine T_iret rfl dX1_shareOf_49 ?_
      exact ⟨by unfold shareS; first | rw [if_neg hac, if_pos (Int32.not_le.mp h40)] | rw [if_neg hac, if_neg (Int32.not_lt.mpr h40)] | rw [if_pos hac, if_pos (Int32.not_le.mp h40)] | rw [if_pos hac, if_neg (Int32.not_lt.mpr h40)], rfl⟩
    · refine T_iconst (v := nI 1) dX1_shareOf_43 rfl ?_
      refine T_goto 48 dX1_shareOf_44 (by decide) ?_
      first | refine T_iaddN dX1_shareOf_48 ?_ | refine T_iadd dX1_shareOf_48 ?_
      refine T_iret rfl dX1_shareOf_49 ?_
      exact ⟨by unfold shareS; first | rw [if_neg hac, if_pos (Int32.not_le.mp h40)] | rw [if_neg hac, if_neg (Int32.not_lt.mpr h40)] | rw [if_pos hac, if_pos (Int32.not_le.mp h40)] | rw [if_pos hac, if_neg (Int32.not_lt.mpr h40)], rfl⟩
  · have hac : a < c := Classical.byContradiction fun q => h18 (nI_le (by omega) (by omega))
    refine T_iload_n dX1_shareOf_21 rfl rfl ?_
    refine T_iconst (v := nI 1) dX1_shareOf_22 rfl ?_
    refine T_isub dX1_shareOf_23 ?_
    rw [pk_sub (a := c) (b := 1) (by omega)]
    refine T_goto 28 dX1_shareOf_24 (by decide) ?_
    refine T_istore5 dX1_shareOf_28 rfl (by decide) ?_
    refine T_iload_n dX1_shareOf_30 rfl rfl ?_
    refine T_iload dX1_shareOf_31 rfl ?_
    refine T_idiv dX1_shareOf_33 hz ?_
    refine T_iload dX1_shareOf_34 rfl ?_
    refine T_iload_n dX1_shareOf_36 rfl rfl ?_
    refine T_iload dX1_shareOf_37 rfl ?_
    refine T_irem dX1_shareOf_39 hz ?_
    refine T_icmp_ge 47 dX1_shareOf_40 (by decide) (fun h40 => ?_) (fun h40 => ?_)
    · refine T_iconst (v := nI 0) dX1_shareOf_47 rfl ?_
      first | refine T_iaddN dX1_shareOf_48 ?_ | refine T_iadd dX1_shareOf_48 ?_
      refine T_iret rfl dX1_shareOf_49 ?_
      exact ⟨by unfold shareS; first | rw [if_neg hac, if_pos (Int32.not_le.mp h40)] | rw [if_neg hac, if_neg (Int32.not_lt.mpr h40)] | rw [if_pos hac, if_pos (Int32.not_le.mp h40)] | rw [if_pos hac, if_neg (Int32.not_lt.mpr h40)], rfl⟩
    · refine T_iconst (v := nI 1) dX1_shareOf_43 rfl ?_
      refine T_goto 48 dX1_shareOf_44 (by decide) ?_
      first | refine T_iaddN dX1_shareOf_48 ?_ | refine T_iadd dX1_shareOf_48 ?_
      refine T_iret rfl dX1_shareOf_49 ?_
      exact ⟨by unfold shareS; first | rw [if_neg hac, if_pos (Int32.not_le.mp h40)] | rw [if_neg hac, if_neg (Int32.not_lt.mpr h40)] | rw [if_pos hac, if_pos (Int32.not_le.mp h40)] | rw [if_pos hac, if_neg (Int32.not_lt.mpr h40)], rfl⟩
set_option maxHeartbeats 4000000 in
set_option maxRecDepth 100000 in
theorem k_X1_splitNumber {X : Cx} {l : Launch} {σ0 : Hp} {h : Rg} {r : Nat} {a : Nat} (hv1 : Lv X 1 r) (hw : Wf h) (ha : a < 4) : Con X l yX1_splitNumber cX1_splitNumber 3 none 1 [.ref (adr X 1 r 0), .int (nI a)] (setR σ0 1 r h) (Ex none (setR σ0 1 r (splS h a (nC h)))) := by
  refine Con_of [some (.ref (adr X 1 r 0)), some (.int (nI a)), none] (by decide) rfl (Nat.le_of_ble_eq_true rfl) ?_
  have hN := hw.2.2.1
  have hwk : ∀ k, Wf (splS h a k) := fun k => hw.congr (splS_k _ _ (by decide) k)
  have hck : ∀ k, (splS h a k) 0 0 = nI (nC h) := fun k => by rw [splS_k _ _ (by decide)]; exact hw.1
  have hlp : ∀ n k : Nat, k + n = nC h → T X l yX1_splitNumber cX1_splitNumber 3 none 1 2 [some (.ref (adr X 1 r 0)), some (.int (nI a)), some (.int (nI k))] [] (setR σ0 1 r (splS h a k)) (Ex none (setR σ0 1 r (splS h a (nC h)))) := by
    intro n
    induction n with
    | zero =>
      intro k hk
      have hk : k = nC h := by omega
      subst hk
      refine T_iload_n dX1_splitNumber_2 rfl rfl ?_
      refine T_aload_n dX1_splitNumber_3 rfl rfl ?_
      refine T_g1F hv1 0 (by decide) fl_X1_48 rfl dX1_splitNumber_4 ?_
      refine T_icmp_ge 43 dX1_splitNumber_7 (by decide) (fun h7 => ?_) (fun h7 => (absurd (by rw [hck]; exact nI_le (Nat.le_refl _) (by omega)) h7))
      refine T_vret rfl dX1_splitNumber_43 ?_
      exact ⟨rfl, rfl⟩
    | succ n ih =>
      intro k hk
      have hnx := ih (k + 1) (by omega)
      have hk : k < nC h := by omega
      refine T_iload_n dX1_splitNumber_2 rfl rfl ?_
      refine T_aload_n dX1_splitNumber_3 rfl rfl ?_
      refine T_g1F hv1 0 (by decide) fl_X1_48 rfl dX1_splitNumber_4 ?_
      refine T_icmp_ge 43 dX1_splitNumber_7 (by decide) (fun h7 => (absurd ((hck k) ▸ h7) (nI_ge hk (by omega)))) (fun h7 => ?_)
      refine T_iload_n dX1_splitNumber_10 rfl rfl ?_
      refine T_iload_n dX1_splitNumber_11 rfl rfl ?_
      refine T_icmp_eq 37 dX1_splitNumber_12 (by decide) (fun h12 => ?_) (fun h12 => ?_)
      · first | refine T_iincN2 dX1_splitNumber_37 rfl (by decide) ?_ | refine T_iinc2 dX1_splitNumber_37 rfl rfl (by decide) ?_
        refine T_goto 2 dX1_splitNumber_40 (by decide) ?_
        first | (rw [splS, if_pos (nIe h12 (by omega) (by omega))] at hnx; exact hnx) | (rw [splS, if_neg (nIn h12)] at hnx; rw [nC_congr (splS_k h a (by decide) k), splS_k h a (show ¬ 1 = 7 by decide) k]; exact hnx)
      · refine T_aload_n dX1_splitNumber_15 rfl rfl ?_
        refine T_g1F hv1 9 (by decide) fl_X1_30 rfl dX1_splitNumber_16 ?_
        refine T_iload_n dX1_splitNumber_19 rfl rfl ?_
        refine T_iload_n dX1_splitNumber_20 rfl rfl ?_
        refine T_callSN k_X3_slot (fun _ h => h.2.2.1) sm_yX3_slot ini_RX3 co_yX3_slot de_X3_slot (by decide) (by decide) rfl (Nat.le_of_ble_eq_true rfl) dX1_splitNumber_21 ?_
        refine T_aload_n dX1_splitNumber_24 rfl rfl ?_
        refine T_aload_n dX1_splitNumber_25 rfl rfl ?_
        refine T_g1F hv1 3 (by decide) fl_X1_9 rfl dX1_splitNumber_26 ?_
        refine T_iload_n dX1_splitNumber_29 rfl rfl ?_
        refine T_ialdF (hv1 _ (by decide)) rfl (Nat.le_of_ble_eq_true rfl) _ (by omega) rfl dX1_splitNumber_30 ?_
        refine T_iload_n dX1_splitNumber_31 rfl rfl ?_
        refine T_iload_n dX1_splitNumber_32 rfl rfl ?_
        refine T_vi (Rc_of (hv1 0 (by decide)) rfl rfl) (k_X1_shareOf hv1 (hwk k) (by omega) (by omega)) ml_X1_78 im_yX1_shareOf se_RX1_yX1_shareOf ini_RX1 co_yX1_shareOf rfl de_X1_shareOf (by decide) (by decide) rfl (Nat.le_of_ble_eq_true rfl) dX1_splitNumber_33 ?_
        refine T_iastF (hv1 _ (by decide)) (fun _ => rfl) (Nat.le_of_ble_eq_true rfl) _ (by omega) rfl dX1_splitNumber_36 ?_
        first | refine T_iincN2 dX1_splitNumber_37 rfl (by decide) ?_ | refine T_iinc2 dX1_splitNumber_37 rfl rfl (by decide) ?_
        refine T_goto 2 dX1_splitNumber_40 (by decide) ?_
        first | (rw [splS, if_pos (nIe h12 (by omega) (by omega))] at hnx; exact hnx) | (rw [splS, if_neg (nIn h12)] at hnx; rw [nC_congr (splS_k h a (by decide) k), splS_k h a (show ¬ 1 = 7 by decide) k]; exact hnx)
  refine T_iconst (v := nI 0) dX1_splitNumber_0 rfl ?_
  refine T_istore2 dX1_splitNumber_1 rfl (by decide) ?_
  exact hlp (nC h) 0 (by omega)
set_option maxHeartbeats 4000000 in
set_option maxRecDepth 100000 in
theorem k_X1_splitAllNumbers {X : Cx} {l : Launch} {σ0 : Hp} {h : Rg} {r : Nat} (hv1 : Lv X 1 r) (hw : Wf h) : Con X l yX1_splitAllNumbers cX1_splitAllNumbers 2 none 2 [.ref (adr X 1 r 0)] (setR σ0 1 r h) (Ex none (setR σ0 1 r (spaS h (nC h)))) := by
  refine Con_of [some (.ref (adr X 1 r 0)), none] (by decide) rfl (Nat.le_of_ble_eq_true rfl) ?_
  have hN := hw.2.2.1
  have hwk : ∀ k, Wf (spaS h k) := fun k => hw.congr (spaS_k _ (by decide) k)
  have hck : ∀ k, (spaS h k) 0 0 = nI (nC h) := fun k => by rw [spaS_k _ (by decide)]; exact hw.1
  have hlp : ∀ n k : Nat, k + n = nC h → T X l yX1_splitAllNumbers cX1_splitAllNumbers 2 none 2 2 [some (.ref (adr X 1 r 0)), some (.int (nI k))] [] (setR σ0 1 r (spaS h k)) (Ex none (setR σ0 1 r (spaS h (nC h)))) := by
    intro n
    induction n with
    | zero =>
      intro k hk
      have hk : k = nC h := by omega
      subst hk
      refine T_iload_n dX1_splitAllNumbers_2 rfl rfl ?_
      refine T_aload_n dX1_splitAllNumbers_3 rfl rfl ?_
      refine T_g1F hv1 0 (by decide) fl_X1_48 rfl dX1_splitAllNumbers_4 ?_
      refine T_icmp_ge 21 dX1_splitAllNumbers_7 (by decide) (fun h7 => ?_) (fun h7 => (absurd (by rw [hck]; exact nI_le (Nat.le_refl _) (by omega)) h7))
      refine T_vret rfl dX1_splitAllNumbers_21 ?_
      exact ⟨rfl, rfl⟩
    | succ n ih =>
      intro k hk
      have hnx := ih (k + 1) (by omega)
      have hk : k < nC h := by omega
      refine T_iload_n dX1_splitAllNumbers_2 rfl rfl ?_
      refine T_aload_n dX1_splitAllNumbers_3 rfl rfl ?_
      refine T_g1F hv1 0 (by decide) fl_X1_48 rfl dX1_splitAllNumbers_4 ?_
      refine T_icmp_ge 21 dX1_splitAllNumbers_7 (by decide) (fun h7 => (absurd ((hck k) ▸ h7) (nI_ge hk (by omega)))) (fun h7 => ?_)
      refine T_aload_n dX1_splitAllNumbers_10 rfl rfl ?_
      refine T_iload_n dX1_splitAllNumbers_11 rfl rfl ?_
      refine T_vv (Rc_of (hv1 0 (by decide)) rfl rfl) (k_X1_splitNumber hv1 (hwk k) (by omega)) ml_X1_70 im_yX1_splitNumber se_RX1_yX1_splitNumber ini_RX1 co_yX1_splitNumber rfl de_X1_splitNumber (by decide) (by decide) rfl (Nat.le_of_ble_eq_true rfl) dX1_splitAllNumbers_12 ?_
      first | refine T_iincN1 dX1_splitAllNumbers_15 rfl (by decide) ?_ | refine T_iinc1 dX1_splitAllNumbers_15 rfl rfl (by decide) ?_
      refine T_goto 2 dX1_splitAllNumbers_18 (by decide) ?_
      rw [nC_congr (spaS_k h (by decide) k)]; exact hnx
  refine T_iconst (v := nI 0) dX1_splitAllNumbers_0 rfl ?_
  refine T_istore1 dX1_splitAllNumbers_1 rfl (by decide) ?_
  exact hlp (nC h) 0 (by omega)
set_option maxHeartbeats 4000000 in
set_option maxRecDepth 100000 in
theorem k_X1_setBounds {X : Cx} {l : Launch} {σ0 : Hp} {h : Rg} {r : Nat} {a : Nat} {x y z : Int32} (hv1 : Lv X 1 r) (ha : a < 4) : Con X l yX1_setBounds cX1_setBounds 5 none 0 [.ref (adr X 1 r 0), .int (nI a), .int x, .int y, .int z] (setR σ0 1 r h) (Ex none (setR σ0 1 r (setbS h a x y z))) := by
  refine Con_of [some (.ref (adr X 1 r 0)), some (.int (nI a)), some (.int x), some (.int y), some (.int z)] (by decide) rfl (Nat.le_of_ble_eq_true rfl) ?_
  refine T_aload_n dX1_setBounds_0 rfl rfl ?_
  refine T_g1F hv1 3 (by decide) fl_X1_9 rfl dX1_setBounds_1 ?_
  refine T_iload_n dX1_setBounds_4 rfl rfl ?_
  refine T_iload_n dX1_setBounds_5 rfl rfl ?_
  refine T_iastF (hv1 _ (by decide)) (fun _ => rfl) (Nat.le_of_ble_eq_true rfl) _ (by omega) rfl dX1_setBounds_6 ?_
  refine T_aload_n dX1_setBounds_7 rfl rfl ?_
  refine T_g1F hv1 4 (by decide) fl_X1_15 rfl dX1_setBounds_8 ?_
  refine T_iload_n dX1_setBounds_11 rfl rfl ?_
  refine T_iload_n dX1_setBounds_12 rfl rfl ?_
  refine T_iastF (hv1 _ (by decide)) (fun _ => rfl) (Nat.le_of_ble_eq_true rfl) _ (by omega) rfl dX1_setBounds_13 ?_
  refine T_aload_n dX1_setBounds_14 rfl rfl ?_
  refine T_g1F hv1 5 (by decide) fl_X1_18 rfl dX1_setBounds_15 ?_
  refine T_iload_n dX1_setBounds_18 rfl rfl ?_
  refine T_iload dX1_setBounds_19 rfl ?_
  refine T_iastF (hv1 _ (by decide)) (fun _ => rfl) (Nat.le_of_ble_eq_true rfl) _ (by omega) rfl dX1_setBounds_21 ?_
  refine T_vret rfl dX1_setBounds_22 ?_
  exact ⟨rfl, rfl⟩
set_option maxHeartbeats 4000000 in
set_option maxRecDepth 100000 in
theorem k_X1_isBound {X : Cx} {l : Launch} {σ0 : Hp} {h : Rg} {r : Nat} {a : Nat} {x y z : Int32} (hv1 : Lv X 1 r) (ha : a < 4) : Con X l yX1_isBound cX1_isBound 5 (some .boolean) 0 [.ref (adr X 1 r 0), .int (nI a), .int x, .int y, .int z] (setR σ0 1 r h) (Ex (some (.int (if h 1 a = x ∧ h 2 a = y ∧ h 3 a = z then nI 1 else nI 0))) (setR σ0 1 r h)) := by
  refine Con_of [some (.ref (adr X 1 r 0)), some (.int (nI a)), some (.int x), some (.int y), some (.int z)] (by decide) rfl (Nat.le_of_ble_eq_true rfl) ?_
  refine T_aload_n dX1_isBound_0 rfl rfl ?_
  refine T_g1F hv1 3 (by decide) fl_X1_9 rfl dX1_isBound_1 ?_
  refine T_iload_n dX1_isBound_4 rfl rfl ?_
  refine T_ialdF (hv1 _ (by decide)) rfl (Nat.le_of_ble_eq_true rfl) _ (by omega) rfl dX1_isBound_5 ?_
  refine T_iload_n dX1_isBound_6 rfl rfl ?_
  refine T_icmp_ne 35 dX1_isBound_7 (by decide) (fun h7 => ?_) (fun h7 => ?_)
  · refine T_iconst (v := nI 0) dX1_isBound_35 rfl ?_
    refine T_zret (ty := .boolean) rfl (by decide) dX1_isBound_36 ?_
    first | (refine ⟨?_, rfl⟩; rw [if_pos (an0 h7 h17 h28)]) | (refine ⟨?_, rfl⟩; rw [if_neg (an1 h7)]) | (refine ⟨?_, rfl⟩; rw [if_neg (an2 h17)]) | (refine ⟨?_, rfl⟩; rw [if_neg (an3 h28)])
  · refine T_aload_n dX1_isBound_10 rfl rfl ?_
    refine T_g1F hv1 4 (by decide) fl_X1_15 rfl dX1_isBound_11 ?_
    refine T_iload_n dX1_isBound_14 rfl rfl ?_
    refine T_ialdF (hv1 _ (by decide)) rfl (Nat.le_of_ble_eq_true rfl) _ (by omega) rfl dX1_isBound_15 ?_
    refine T_iload_n dX1_isBound_16 rfl rfl ?_
    refine T_icmp_ne 35 dX1_isBound_17 (by decide) (fun h17 => ?_) (fun h17 => ?_)
    · refine T_iconst (v := nI 0) dX1_isBound_35 rfl ?_
      refine T_zret (ty := .boolean) rfl (by decide) dX1_isBound_36 ?_
      first | (refine ⟨?_, rfl⟩; rw [if_pos (an0 h7 h17 h28)]) | (refine ⟨?_, rfl⟩; rw [if_neg (an1 h7)]) | (refine ⟨?_, rfl⟩; rw [if_neg (an2 h17)]) | (refine ⟨?_, rfl⟩; rw [if_neg (an3 h28)])
    · refine T_aload_n dX1_isBound_20 rfl rfl ?_
      refine T_g1F hv1 5 (by decide) fl_X1_18 rfl dX1_isBound_21 ?_
      refine T_iload_n dX1_isBound_24 rfl rfl ?_
      refine T_ialdF (hv1 _ (by decide)) rfl (Nat.le_of_ble_eq_true rfl) _ (by omega) rfl dX1_isBound_25 ?_
      refine T_iload dX1_isBound_26 rfl ?_
      refine T_icmp_ne 35 dX1_isBound_28 (by decide) (fun h28 => ?_) (fun h28 => ?_)
      · refine T_iconst (v := nI 0) dX1_isBound_35 rfl ?_
        refine T_zret (ty := .boolean) rfl (by decide) dX1_isBound_36 ?_
        first | (refine ⟨?_, rfl⟩; rw [if_pos (an0 h7 h17 h28)]) | (refine ⟨?_, rfl⟩; rw [if_neg (an1 h7)]) | (refine ⟨?_, rfl⟩; rw [if_neg (an2 h17)]) | (refine ⟨?_, rfl⟩; rw [if_neg (an3 h28)])
      · refine T_iconst (v := nI 1) dX1_isBound_31 rfl ?_
        refine T_goto 36 dX1_isBound_32 (by decide) ?_
        refine T_zret (ty := .boolean) rfl (by decide) dX1_isBound_36 ?_
        first | (refine ⟨?_, rfl⟩; rw [if_pos (an0 h7 h17 h28)]) | (refine ⟨?_, rfl⟩; rw [if_neg (an1 h7)]) | (refine ⟨?_, rfl⟩; rw [if_neg (an2 h17)]) | (refine ⟨?_, rfl⟩; rw [if_neg (an3 h28)])
set_option maxHeartbeats 4000000 in
set_option maxRecDepth 100000 in
theorem k_X1_even {X : Cx} {l : Launch} {σ0 : Hp} {h : Rg} {r : Nat} {a : Nat} (hv1 : Lv X 1 r) (hw : Wf h) (ha : a < 4) : Con X l yX1_even cX1_even 4 (some .int) 4 [.ref (adr X 1 r 0), .int (nI a)] (setR σ0 1 r h) (Ex (some (.int (totS h a (nC h)))) (setR σ0 1 r (eveS h a (totS h a (nC h)) (nC h)))) := by
  refine Con_of [some (.ref (adr X 1 r 0)), some (.int (nI a)), none, none] (by decide) rfl (Nat.le_of_ble_eq_true rfl) ?_
  have hN := hw.2.2.1
  have hwk : ∀ k, Wf (eveS h a (totS h a (nC h)) k) := fun k => hw.congr (eveS_k _ _ _ (by decide) k)
  have hck : ∀ k, (eveS h a (totS h a (nC h)) k) 0 0 = nI (nC h) := fun k => by rw [eveS_k _ _ _ (by decide)]; exact hw.1
  have hlp2 : ∀ n k : Nat, k + n = nC h → T X l yX1_even cX1_even 4 (some .int) 4 34 [some (.ref (adr X 1 r 0)), some (.int (nI a)), some (.int (totS h a (nC h))), some (.int (nI k))] [] (setR σ0 1 r (eveS h a (totS h a (nC h)) k)) (Ex (some (.int (totS h a (nC h)))) (setR σ0 1 r (eveS h a (totS h a (nC h)) (nC h)))) := by
    intro n
    induction n with
    | zero =>
      intro k hk
      have hk : k = nC h := by omega
      subst hk
      refine T_iload_n dX1_even_34 rfl rfl ?_
      refine T_aload_n dX1_even_35 rfl rfl ?_
      refine T_g1F hv1 0 (by decide) fl_X1_48 rfl dX1_even_36 ?_
      refine T_icmp_ge 77 dX1_even_39 (by decide) (fun h39 => ?_) (fun h39 => (absurd (by rw [hck]; exact nI_le (Nat.le_refl _) (by omega)) h39))
      refine T_iload_n dX1_even_77 rfl rfl ?_
      refine T_iret rfl dX1_even_78 ?_
      exact ⟨rfl, rfl⟩
    | succ n ih =>
      intro k hk
      have hnx := ih (k + 1) (by omega)
      have hk : k < nC h := by omega
      refine T_iload_n dX1_even_34 rfl rfl ?_
      refine T_aload_n dX1_even_35 rfl rfl ?_
      refine T_g1F hv1 0 (by decide) fl_X1_48 rfl dX1_even_36 ?_
      refine T_icmp_ge 77 dX1_even_39 (by decide) (fun h39 => (absurd ((hck k) ▸ h39) (nI_ge hk (by omega)))) (fun h39 => ?_)
      refine T_iload_n dX1_even_42 rfl rfl ?_
      refine T_iload_n dX1_even_43 rfl rfl ?_
      refine T_icmp_eq 71 dX1_even_44 (by decide) (fun h44 => ?_) (fun h44 => ?_)
      · first | refine T_iincN3 dX1_even_71 rfl (by decide) ?_ | refine T_iinc3 dX1_even_71 rfl rfl (by decide) ?_
        refine T_goto 34 dX1_even_74 (by decide) ?_
        first | (rw [eveS, if_pos (nIe h44 (by omega) (by omega))] at hnx; exact hnx) | (rw [eveS, if_neg (nIn h44)] at hnx; rw [nC_congr (eveS_k h a (totS h a (nC h)) (by decide) k)]; exact hnx)
      · refine T_aload_n dX1_even_47 rfl rfl ?_
        refine T_g1F hv1 9 (by decide) fl_X1_30 rfl dX1_even_48 ?_
        refine T_iload_n dX1_even_51 rfl rfl ?_
        refine T_iload_n dX1_even_52 rfl rfl ?_
        refine T_callSN k_X3_slot (fun _ h => h.2.2.1) sm_yX3_slot ini_RX3 co_yX3_slot de_X3_slot (by decide) (by decide) rfl (Nat.le_of_ble_eq_true rfl) dX1_even_53 ?_
        refine T_aload_n dX1_even_56 rfl rfl ?_
        refine T_iload_n dX1_even_57 rfl rfl ?_
        refine T_iload_n dX1_even_58 rfl rfl ?_
        refine T_vi (Rc_of (hv1 0 (by decide)) rfl rfl) (k_X1_owed hv1 (hwk k) (by omega) (by omega)) ml_X1_102 im_yX1_owed se_RX1_yX1_owed ini_RX1 co_yX1_owed rfl de_X1_owed (by decide) (by decide) rfl (Nat.le_of_ble_eq_true rfl) dX1_even_59 ?_
        refine T_aload_n dX1_even_62 rfl rfl ?_
        refine T_iload_n dX1_even_63 rfl rfl ?_
        refine T_iload_n dX1_even_64 rfl rfl ?_
        refine T_iload_n dX1_even_65 rfl rfl ?_
        refine T_vi (Rc_of (hv1 0 (by decide)) rfl rfl) (k_X1_shareOf hv1 (hwk k) (by omega) (by omega)) ml_X1_78 im_yX1_shareOf se_RX1_yX1_shareOf ini_RX1 co_yX1_shareOf rfl de_X1_shareOf (by decide) (by decide) rfl (Nat.le_of_ble_eq_true rfl) dX1_even_66 ?_
        refine T_iadd dX1_even_69 ?_
        refine T_iastF (hv1 _ (by decide)) (fun _ => rfl) (Nat.le_of_ble_eq_true rfl) _ (by omega) rfl dX1_even_70 ?_
        first | refine T_iincN3 dX1_even_71 rfl (by decide) ?_ | refine T_iinc3 dX1_even_71 rfl rfl (by decide) ?_
        refine T_goto 34 dX1_even_74 (by decide) ?_
        first | (rw [eveS, if_pos (nIe h44 (by omega) (by omega))] at hnx; exact hnx) | (rw [eveS, if_neg (nIn h44)] at hnx; rw [nC_congr (eveS_k h a (totS h a (nC h)) (by decide) k)]; exact hnx)
  have hlp : ∀ n k : Nat, k + n = nC h → T X l yX1_even cX1_even 4 (some .int) 4 4 [some (.ref (adr X 1 r 0)), some (.int (nI a)), some (.int (totS h a k)), some (.int (nI k))] [] (setR σ0 1 r h) (Ex (some (.int (totS h a (nC h)))) (setR σ0 1 r (eveS h a (totS h a (nC h)) (nC h)))) := by
    intro n
    induction n with
    | zero =>
      intro k hk
      have hk : k = nC h := by omega
      subst hk
      refine T_iload_n dX1_even_4 rfl rfl ?_
      refine T_aload_n dX1_even_5 rfl rfl ?_
      refine T_g1F hv1 0 (by decide) fl_X1_48 rfl dX1_even_6 ?_
      refine T_icmp_ge 32 dX1_even_9 (by decide) (fun h9 => ?_) (fun h9 => (absurd (by rw [hw.1]; exact nI_le (Nat.le_refl _) (by omega)) h9))
      refine T_iconst (v := nI 0) dX1_even_32 rfl ?_
      refine T_istore3 dX1_even_33 rfl (by decide) ?_
      exact hlp2 (nC h) 0 (by omega)
    | succ n ih =>
      intro k hk
      have hnx := ih (k + 1) (by omega)
      have hk : k < nC h := by omega
      refine T_iload_n dX1_even_4 rfl rfl ?_
      refine T_aload_n dX1_even_5 rfl rfl ?_
      refine T_g1F hv1 0 (by decide) fl_X1_48 rfl dX1_even_6 ?_
      refine T_icmp_ge 32 dX1_even_9 (by decide) (fun h9 => (absurd (hw.1 ▸ h9) (nI_ge hk (by omega)))) (fun h9 => ?_)
      refine T_iload_n dX1_even_12 rfl rfl ?_
      refine T_iload_n dX1_even_13 rfl rfl ?_
      refine T_icmp_eq 26 dX1_even_14 (by decide) (fun h14 => ?_) (fun h14 => ?_)
      · first | refine T_iincN3 dX1_even_26 rfl (by decide) ?_ | refine T_iinc3 dX1_even_26 rfl rfl (by decide) ?_
        refine T_goto 4 dX1_even_29 (by decide) ?_
        first | (rw [totS, if_pos (nIe h14 (by omega) (by omega))] at hnx; exact hnx) | (rw [totS, if_neg (nIn h14)] at hnx; exact hnx)
      · refine T_iload_n dX1_even_17 rfl rfl ?_
        refine T_aload_n dX1_even_18 rfl rfl ?_
        refine T_iload_n dX1_even_19 rfl rfl ?_
        refine T_iload_n dX1_even_20 rfl rfl ?_
        refine T_vi (Rc_of (hv1 0 (by decide)) rfl rfl) (k_X1_left hv1 hw (by omega) (by omega)) ml_X1_105 im_yX1_left se_RX1_yX1_left ini_RX1 co_yX1_left rfl de_X1_left (by decide) (by decide) rfl (Nat.le_of_ble_eq_true rfl) dX1_even_21 ?_
        refine T_iadd dX1_even_24 ?_
        refine T_istore2 dX1_even_25 rfl (by decide) ?_
        first | refine T_iincN3 dX1_even_26 rfl (by decide) ?_ | refine T_iinc3 dX1_even_26 rfl rfl (by decide) ?_
        refine T_goto 4 dX1_even_29 (by decide) ?_
        first | (rw [totS, if_pos (nIe h14 (by omega) (by omega))] at hnx; exact hnx) | (rw [totS, if_neg (nIn h14)] at hnx; exact hnx)
  refine T_iconst (v := nI 0) dX1_even_0 rfl ?_
  refine T_istore2 dX1_even_1 rfl (by decide) ?_
  refine T_iconst (v := nI 0) dX1_even_2 rfl ?_
  refine T_istore3 dX1_even_3 rfl (by decide) ?_
  exact hlp (nC h) 0 (by omega)
set_option maxHeartbeats 4000000 in
set_option maxRecDepth 100000 in
theorem k_X1_bindAnew {X : Cx} {l : Launch} {σ0 : Hp} {h : Rg} {r : Nat} {a : Nat} {x y z : Int32} (hv1 : Lv X 1 r) (hw : Wf h) (ha : a < 4) : Con X l yX1_bindAnew cX1_bindAnew 8 (some .int) 5 [.ref (adr X 1 r 0), .int (nI a), .int x, .int y, .int z] (setR σ0 1 r h) (Ex (some (.int (nI (bindS h a x y z).2))) (setR σ0 1 r (bindS h a x y z).1)) := by
  refine Con_of [some (.ref (adr X 1 r 0)), some (.int (nI a)), some (.int x), some (.int y), some (.int z), none, none, none] (by decide) rfl (Nat.le_of_ble_eq_true rfl) ?_
  have hN := hw.2.2.1
  have hlp : ∀ (b : Int32) (g : Rg), Wf g → nC g = nC h → bndS g a (nC h) = bindS h a x y z → ∀ n k : Nat, k + n = nC h → T X l yX1_bindAnew cX1_bindAnew 8 (some .int) 5 42 [some (.ref (adr X 1 r 0)), some (.int (nI a)), some (.int x), some (.int y), some (.int z), some (.int b), some (.int (nI (bndS g a k).2)), some (.int (nI k))] [] (setR σ0 1 r (bndS g a k).1) (Ex (some (.int (nI (bindS h a x y z).2))) (setR σ0 1 r (bindS h a x y z).1)) := by
    intro b g hg hgc hgb
    have hwk : ∀ k, Wf (bndS g a k).1 := fun k => hg.congr (bndS_0 _ _ k)
    have hck : ∀ k, (bndS g a k).1 0 0 = nI (nC h) := fun k => by rw [bndS_0, ← hgc]; exact hg.1
    intro n
    induction n with
    | zero =>
      intro k hk
      have hk : k = nC h := by omega
      subst hk
      refine T_iload dX1_bindAnew_42 rfl ?_
      refine T_aload_n dX1_bindAnew_44 rfl rfl ?_
      refine T_g1F hv1 0 (by decide) fl_X1_48 rfl dX1_bindAnew_45 ?_
      refine T_icmp_ge 76 dX1_bindAnew_48 (by decide) (fun h48 => ?_) (fun h48 => (absurd (by rw [hck]; exact nI_le (Nat.le_refl _) (by omega)) h48))
      refine T_iload dX1_bindAnew_76 rfl ?_
      refine T_iret rfl dX1_bindAnew_78 ?_
      exact ⟨by rw [hgb], by rw [hgb]⟩
    | succ n ih =>
      intro k hk
      have hnx := ih (k + 1) (by omega)
      have hk : k < nC h := by omega
      refine T_iload dX1_bindAnew_42 rfl ?_
      refine T_aload_n dX1_bindAnew_44 rfl rfl ?_
      refine T_g1F hv1 0 (by decide) fl_X1_48 rfl dX1_bindAnew_45 ?_
      refine T_icmp_ge 76 dX1_bindAnew_48 (by decide) (fun h48 => (absurd ((hck k) ▸ h48) (nI_ge hk (by omega)))) (fun h48 => ?_)
      refine T_iload dX1_bindAnew_51 rfl ?_
      refine T_iload_n dX1_bindAnew_53 rfl rfl ?_
      refine T_icmp_eq 70 dX1_bindAnew_54 (by decide) (fun h54 => ?_) (fun h54 => ?_)
      · first | refine T_iincN7 dX1_bindAnew_70 rfl (by decide) ?_ | refine T_iinc7 dX1_bindAnew_70 rfl rfl (by decide) ?_
        refine T_goto 42 dX1_bindAnew_73 (by decide) ?_
        first | (rw [bndS, if_pos (nIe h54 (by omega) (by omega))] at hnx; exact hnx) | (rw [bndS, if_neg (nIn h54), if_pos (b01_1 h64)] at hnx; rw [pifS, if_pos (b01_1 h64)]; exact hnx) | (rw [bndS, if_neg (nIn h54), if_neg (b01_0 h64)] at hnx; rw [pifS, if_neg (b01_0 h64)]; exact hnx)
      · refine T_aload_n dX1_bindAnew_57 rfl rfl ?_
        refine T_iload dX1_bindAnew_58 rfl ?_
        refine T_iload_n dX1_bindAnew_60 rfl rfl ?_
        refine T_vi (Rc_of (hv1 0 (by decide)) rfl rfl) (k_X1_pushIfOver hv1 (hwk k) (by omega) (by omega)) ml_X1_117 im_yX1_pushIfOver se_RX1_yX1_pushIfOver ini_RX1 co_yX1_pushIfOver rfl de_X1_pushIfOver (by decide) (by decide) rfl (Nat.le_of_ble_eq_true rfl) dX1_bindAnew_61 ?_
        refine T_if_eq 70 dX1_bindAnew_64 (by decide) (fun h64 => ?_) (fun h64 => ?_)
        · first | refine T_iincN7 dX1_bindAnew_70 rfl (by decide) ?_ | refine T_iinc7 dX1_bindAnew_70 rfl rfl (by decide) ?_
          refine T_goto 42 dX1_bindAnew_73 (by decide) ?_
          first | (rw [bndS, if_pos (nIe h54 (by omega) (by omega))] at hnx; exact hnx) | (rw [bndS, if_neg (nIn h54), if_pos (b01_1 h64)] at hnx; rw [pifS, if_pos (b01_1 h64)]; exact hnx) | (rw [bndS, if_neg (nIn h54), if_neg (b01_0 h64)] at hnx; rw [pifS, if_neg (b01_0 h64)]; exact hnx)
        · first | refine T_iincN6 dX1_bindAnew_67 rfl (by decide) ?_ | refine T_iinc6 dX1_bindAnew_67 rfl rfl (by decide) ?_
          first | refine T_iincN7 dX1_bindAnew_70 rfl (by decide) ?_ | refine T_iinc7 dX1_bindAnew_70 rfl rfl (by decide) ?_
          refine T_goto 42 dX1_bindAnew_73 (by decide) ?_
          first | (rw [bndS, if_pos (nIe h54 (by omega) (by omega))] at hnx; exact hnx) | (rw [bndS, if_neg (nIn h54), if_pos (b01_1 h64)] at hnx; rw [pifS, if_pos (b01_1 h64)]; exact hnx) | (rw [bndS, if_neg (nIn h54), if_neg (b01_0 h64)] at hnx; rw [pifS, if_neg (b01_0 h64)]; exact hnx)
  refine T_aload_n dX1_bindAnew_0 rfl rfl ?_
  refine T_g1F hv1 3 (by decide) fl_X1_9 rfl dX1_bindAnew_1 ?_
  refine T_iload_n dX1_bindAnew_4 rfl rfl ?_
  refine T_ialdF (hv1 _ (by decide)) rfl (Nat.le_of_ble_eq_true rfl) _ (by omega) rfl dX1_bindAnew_5 ?_
  refine T_iload_n dX1_bindAnew_6 rfl rfl ?_
  refine T_icmp_eq 14 dX1_bindAnew_7 (by decide) (fun h7 => ?_) (fun h7 => ?_)
  · refine T_iconst (v := nI 0) dX1_bindAnew_14 rfl ?_
    refine T_istore5 dX1_bindAnew_15 rfl (by decide) ?_
    refine T_aload_n dX1_bindAnew_17 rfl rfl ?_
    refine T_iload_n dX1_bindAnew_18 rfl rfl ?_
    refine T_iload_n dX1_bindAnew_19 rfl rfl ?_
    refine T_iload_n dX1_bindAnew_20 rfl rfl ?_
    refine T_iload dX1_bindAnew_21 rfl ?_
    refine T_vv (Rc_of (hv1 0 (by decide)) rfl rfl) (k_X1_setBounds hv1 (by omega)) ml_X1_129 im_yX1_setBounds se_RX1_yX1_setBounds ini_RX1 co_yX1_setBounds rfl de_X1_setBounds (by decide) (by decide) rfl (Nat.le_of_ble_eq_true rfl) dX1_bindAnew_23 ?_
    refine T_iload dX1_bindAnew_26 rfl ?_
    refine T_if_eq 36 dX1_bindAnew_28 (by decide) (fun h28 => ?_) (fun h28 => ?_)
    · refine T_iconst (v := nI 0) dX1_bindAnew_36 rfl ?_
      refine T_istore6 dX1_bindAnew_37 rfl (by decide) ?_
      refine T_iconst (v := nI 0) dX1_bindAnew_39 rfl ?_
      refine T_istore7 dX1_bindAnew_40 rfl (by decide) ?_
      first | (exact (nope1 h28).elim) | (exact (nope0 h28).elim) | (refine hlp _ (setbS h a x y z) (hw.congr rfl) rfl ?_ (nC h) 0 (Nat.zero_add _); rw [bindS, if_pos h7]) | (refine hlp _ (splS (setbS h a x y z) a (nC h)) (hw.congr (splS_k (setbS h a x y z) a n07 (nC h))) (nC_congr (splS_k (setbS h a x y z) a n07 (nC h))) ?_ (nC h) 0 (Nat.zero_add _); rw [bindS, if_neg h7])
    · refine T_aload_n dX1_bindAnew_31 rfl rfl ?_
      refine T_iload_n dX1_bindAnew_32 rfl rfl ?_
      refine T_vv (Rc_of (hv1 0 (by decide)) rfl rfl) (k_X1_splitNumber hv1 (hw.congr rfl) (by omega)) ml_X1_70 im_yX1_splitNumber se_RX1_yX1_splitNumber ini_RX1 co_yX1_splitNumber rfl de_X1_splitNumber (by decide) (by decide) rfl (Nat.le_of_ble_eq_true rfl) dX1_bindAnew_33 ?_
      refine T_iconst (v := nI 0) dX1_bindAnew_36 rfl ?_
      refine T_istore6 dX1_bindAnew_37 rfl (by decide) ?_
      refine T_iconst (v := nI 0) dX1_bindAnew_39 rfl ?_
      refine T_istore7 dX1_bindAnew_40 rfl (by decide) ?_
      first | (exact (nope1 h28).elim) | (exact (nope0 h28).elim) | (refine hlp _ (setbS h a x y z) (hw.congr rfl) rfl ?_ (nC h) 0 (Nat.zero_add _); rw [bindS, if_pos h7]) | (refine hlp _ (splS (setbS h a x y z) a (nC h)) (hw.congr (splS_k (setbS h a x y z) a n07 (nC h))) (nC_congr (splS_k (setbS h a x y z) a n07 (nC h))) ?_ (nC h) 0 (Nat.zero_add _); rw [bindS, if_neg h7])
  · refine T_iconst (v := nI 1) dX1_bindAnew_10 rfl ?_
    refine T_goto 15 dX1_bindAnew_11 (by decide) ?_
    refine T_istore5 dX1_bindAnew_15 rfl (by decide) ?_
    refine T_aload_n dX1_bindAnew_17 rfl rfl ?_
    refine T_iload_n dX1_bindAnew_18 rfl rfl ?_
    refine T_iload_n dX1_bindAnew_19 rfl rfl ?_
    refine T_iload_n dX1_bindAnew_20 rfl rfl ?_
    refine T_iload dX1_bindAnew_21 rfl ?_
    refine T_vv (Rc_of (hv1 0 (by decide)) rfl rfl) (k_X1_setBounds hv1 (by omega)) ml_X1_129 im_yX1_setBounds se_RX1_yX1_setBounds ini_RX1 co_yX1_setBounds rfl de_X1_setBounds (by decide) (by decide) rfl (Nat.le_of_ble_eq_true rfl) dX1_bindAnew_23 ?_
    refine T_iload dX1_bindAnew_26 rfl ?_
    refine T_if_eq 36 dX1_bindAnew_28 (by decide) (fun h28 => ?_) (fun h28 => ?_)
    · refine T_iconst (v := nI 0) dX1_bindAnew_36 rfl ?_
      refine T_istore6 dX1_bindAnew_37 rfl (by decide) ?_
      refine T_iconst (v := nI 0) dX1_bindAnew_39 rfl ?_
      refine T_istore7 dX1_bindAnew_40 rfl (by decide) ?_
      first | (exact (nope1 h28).elim) | (exact (nope0 h28).elim) | (refine hlp _ (setbS h a x y z) (hw.congr rfl) rfl ?_ (nC h) 0 (Nat.zero_add _); rw [bindS, if_pos h7]) | (refine hlp _ (splS (setbS h a x y z) a (nC h)) (hw.congr (splS_k (setbS h a x y z) a n07 (nC h))) (nC_congr (splS_k (setbS h a x y z) a n07 (nC h))) ?_ (nC h) 0 (Nat.zero_add _); rw [bindS, if_neg h7])
    · refine T_aload_n dX1_bindAnew_31 rfl rfl ?_
      refine T_iload_n dX1_bindAnew_32 rfl rfl ?_
      refine T_vv (Rc_of (hv1 0 (by decide)) rfl rfl) (k_X1_splitNumber hv1 (hw.congr rfl) (by omega)) ml_X1_70 im_yX1_splitNumber se_RX1_yX1_splitNumber ini_RX1 co_yX1_splitNumber rfl de_X1_splitNumber (by decide) (by decide) rfl (Nat.le_of_ble_eq_true rfl) dX1_bindAnew_33 ?_
      refine T_iconst (v := nI 0) dX1_bindAnew_36 rfl ?_
      refine T_istore6 dX1_bindAnew_37 rfl (by decide) ?_
      refine T_iconst (v := nI 0) dX1_bindAnew_39 rfl ?_
      refine T_istore7 dX1_bindAnew_40 rfl (by decide) ?_
      first | (exact (nope1 h28).elim) | (exact (nope0 h28).elim) | (refine hlp _ (setbS h a x y z) (hw.congr rfl) rfl ?_ (nC h) 0 (Nat.zero_add _); rw [bindS, if_pos h7]) | (refine hlp _ (splS (setbS h a x y z) a (nC h)) (hw.congr (splS_k (setbS h a x y z) a n07 (nC h))) (nC_congr (splS_k (setbS h a x y z) a n07 (nC h))) ?_ (nC h) 0 (Nat.zero_add _); rw [bindS, if_neg h7])
