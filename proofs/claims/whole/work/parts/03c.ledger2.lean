
theorem nIe {a b : Nat} (h : nI a = nI b) (ha : a < 2 ^ 31) (hb : b < 2 ^ 31) : a = b := (nI_eq ha hb).mp h
theorem nIn {a b : Nat} (h : ¬ nI a = nI b) : ¬ a = b := fun e => h (congrArg nI e)
theorem nope1 (h : nI 1 = 0) : False := absurd h (by decide)
theorem nope0 (h : ¬ nI 0 = 0) : False := h (by decide)
theorem an0 {A B C : Prop} (a : A) (b : B) (c : C) : A ∧ B ∧ C := ⟨a, b, c⟩
theorem an1 {A B C : Prop} (h : ¬ A) : ¬ (A ∧ B ∧ C) := fun q => h q.1
theorem an2 {A B C : Prop} (h : ¬ B) : ¬ (A ∧ B ∧ C) := fun q => h q.2.1
theorem an3 {A B C : Prop} (h : ¬ C) : ¬ (A ∧ B ∧ C) := fun q => h q.2.2
theorem n07 : ¬ 0 = 7 := by decide
theorem up1_id (h : Rg) (k : Nat) : up1 h k (h k) = h := by
  funext k'
  unfold up1
  split
  · rename_i e; rw [e]
  · rfl
theorem up2_of1 (h : Rg) (k j : Nat) (g : Nat → Int32) (v : Int32) : up2 (up1 h k g) k j v = up1 h k (upd g j v) := by
  funext k'
  unfold up2
  rw [up1_same]
  unfold up1
  split <;> rfl
theorem learnS_0 (h : Rg) (a : Nat) (s : Int32) : learnS h a s 0 = h 0 := rfl
theorem pushS_0 (h : Rg) (c a : Nat) : pushS h c a 0 = h 0 := rfl
theorem accS_0 (h : Rg) (c : Nat) : ∀ n, (accS h c n).1 0 = h 0
  | 0 => rfl
  | n + 1 => by
    rw [accS]
    split
    · exact accS_0 h c n
    · split
      · exact accS_0 h c n
      · exact accS_0 h c n
theorem bndS_0 (h : Rg) (a : Nat) : ∀ n, (bndS h a n).1 0 = h 0
  | 0 => rfl
  | n + 1 => by
    rw [bndS]
    split
    · exact bndS_0 h a n
    · split
      · exact bndS_0 h a n
      · exact bndS_0 h a n
theorem heaS_k (h : Rg) (a c : Nat) {j : Nat} (hj : ¬ j = 6) : ∀ n, heaS h a c n j = h j
  | 0 => rfl
  | n + 1 => by
    rw [heaS]
    split
    · exact heaS_k h a c hj n
    · split
      · exact heaS_k h a c hj n
      · rw [up2_ne hj]; exact heaS_k h a c hj n
theorem pul0S_0 (h : Rg) (a c : Nat) : pul0S h a c 0 = h 0 := rfl
theorem pullS_0 (h : Rg) (a c : Nat) : pullS h a c 0 = h 0 := by
  unfold pullS
  rw [heaS_k _ _ _ (by decide)]
  rfl
theorem redS_0 (h : Rg) (a : Nat) : ∀ n, (redS h a n).1 0 = h 0
  | 0 => rfl
  | n + 1 => by
    rw [redS]
    split
    · exact redS_0 h a n
    · split
      · exact redS_0 h a n
      · show pullS _ _ _ 0 = _
        rw [pullS_0]; exact redS_0 h a n
theorem splS_k (h : Rg) (a : Nat) {j : Nat} (hj : ¬ j = 7) : ∀ n, splS h a n j = h j
  | 0 => rfl
  | n + 1 => by
    rw [splS]
    split
    · exact splS_k h a hj n
    · rw [up2_ne hj]; exact splS_k h a hj n
theorem spaS_k (h : Rg) {j : Nat} (hj : ¬ j = 7) : ∀ n, spaS h n j = h j
  | 0 => rfl
  | n + 1 => by
    rw [spaS, splS_k _ _ hj]; exact spaS_k h hj n
theorem eveS_k (h : Rg) (a : Nat) (t : Int32) {j : Nat} (hj : ¬ j = 7) : ∀ n, eveS h a t n j = h j
  | 0 => rfl
  | n + 1 => by
    rw [eveS]
    split
    · exact eveS_k h a t hj n
    · rw [up2_ne hj]; exact eveS_k h a t hj n
theorem newWS_W {h : Rg} (hw : Wf h) (hM : nW h < 24) (c : Nat) (w : Int32) : Wf (newWS h c w) ∧ nC (newWS h c w) = nC h ∧ nW (newWS h c w) = nW h + 1 := by
  have e0 : newWS h c w 0 0 = h 0 0 := rfl
  have e2 : newWS h c w 0 2 = h 0 2 + nI 1 := rfl
  have e3 : newWS h c w 0 2 = nI (nW h + 1) := by rw [e2, hw.2.2.2.1, nI_add]
  have c0 : nC (newWS h c w) = nC h := by unfold nC; rw [e0]
  have c2 : nW (newWS h c w) = nW h + 1 := by
    have : nW (newWS h c w) = (newWS h c w 0 2).toNatClampNeg := rfl
    rw [this, e3, nI_clamp (by omega)]
  exact ⟨⟨by rw [c0, e0]; exact hw.1, by rw [c0]; exact hw.2.1, by rw [c0]; exact hw.2.2.1, by rw [c2]; exact e3, by rw [c2]; omega⟩, c0, c2⟩

set_option maxHeartbeats 4000000 in
set_option maxRecDepth 100000 in
theorem k_J6_bitCount_0f7a4 {X : Cx} {l : Launch} {σ : Hp} {i : Int32} : Con X l yJ6_bitCount_0f7a4 cJ6_bitCount_0f7a4 1 (some .int) 0 [.int i] σ (Ex (some (.int (popS i))) σ) := by
  refine Con_of [some (.int i)] (by decide) rfl (Nat.le_of_ble_eq_true rfl) ?_
  refine T_iload_n dJ6_bitCount_0f7a4_0 rfl rfl ?_
  refine T_iload_n dJ6_bitCount_0f7a4_1 rfl rfl ?_
  refine T_iconst (v := nI 1) dJ6_bitCount_0f7a4_2 rfl ?_
  refine T_iushr dJ6_bitCount_0f7a4_3 rfl ?_
  refine T_ldcw con_RJ6_265__1431655765_ dJ6_bitCount_0f7a4_4 ?_
  refine T_iand dJ6_bitCount_0f7a4_7 ?_
  refine T_isub dJ6_bitCount_0f7a4_8 ?_
  refine T_istore0 dJ6_bitCount_0f7a4_9 rfl (by decide) ?_
  refine T_iload_n dJ6_bitCount_0f7a4_10 rfl rfl ?_
  refine T_ldcw con_RJ6_266__858993459_ dJ6_bitCount_0f7a4_11 ?_
  refine T_iand dJ6_bitCount_0f7a4_14 ?_
  refine T_iload_n dJ6_bitCount_0f7a4_15 rfl rfl ?_
  refine T_iconst (v := nI 2) dJ6_bitCount_0f7a4_16 rfl ?_
  refine T_iushr dJ6_bitCount_0f7a4_17 rfl ?_
  refine T_ldcw con_RJ6_266__858993459_ dJ6_bitCount_0f7a4_18 ?_
  refine T_iand dJ6_bitCount_0f7a4_21 ?_
  refine T_iadd dJ6_bitCount_0f7a4_22 ?_
  refine T_istore0 dJ6_bitCount_0f7a4_23 rfl (by decide) ?_
  refine T_iload_n dJ6_bitCount_0f7a4_24 rfl rfl ?_
  refine T_iload_n dJ6_bitCount_0f7a4_25 rfl rfl ?_
  refine T_iconst (v := nI 4) dJ6_bitCount_0f7a4_26 rfl ?_
  refine T_iushr dJ6_bitCount_0f7a4_27 rfl ?_
  refine T_iadd dJ6_bitCount_0f7a4_28 ?_
  refine T_ldcw con_RJ6_267__252645135_ dJ6_bitCount_0f7a4_29 ?_
  refine T_iand dJ6_bitCount_0f7a4_32 ?_
  refine T_istore0 dJ6_bitCount_0f7a4_33 rfl (by decide) ?_
  refine T_iload_n dJ6_bitCount_0f7a4_34 rfl rfl ?_
  refine T_iload_n dJ6_bitCount_0f7a4_35 rfl rfl ?_
  refine T_bipush (v := nI 8) dJ6_bitCount_0f7a4_36 (by decide) ?_
  refine T_iushr dJ6_bitCount_0f7a4_38 rfl ?_
  refine T_iadd dJ6_bitCount_0f7a4_39 ?_
  refine T_istore0 dJ6_bitCount_0f7a4_40 rfl (by decide) ?_
  refine T_iload_n dJ6_bitCount_0f7a4_41 rfl rfl ?_
  refine T_iload_n dJ6_bitCount_0f7a4_42 rfl rfl ?_
  refine T_bipush (v := nI 16) dJ6_bitCount_0f7a4_43 (by decide) ?_
  refine T_iushr dJ6_bitCount_0f7a4_45 rfl ?_
  refine T_iadd dJ6_bitCount_0f7a4_46 ?_
  refine T_istore0 dJ6_bitCount_0f7a4_47 rfl (by decide) ?_
  refine T_iload_n dJ6_bitCount_0f7a4_48 rfl rfl ?_
  refine T_bipush (v := nI 63) dJ6_bitCount_0f7a4_49 (by decide) ?_
  refine T_iand dJ6_bitCount_0f7a4_51 ?_
  refine T_iret rfl dJ6_bitCount_0f7a4_52 ?_
  exact ⟨rfl, rfl⟩
set_option maxHeartbeats 4000000 in
set_option maxRecDepth 100000 in
theorem k_X1_sum {X : Cx} {l : Launch} {σ0 : Hp} {h : Rg} {r : Nat} {c : Nat} (hv1 : Lv X 1 r) (hw : Wf h) (hc : c < 4) : Con X l yX1_sum cX1_sum 2 (some .int) 2 [.ref (adr X 1 r 0), .int (nI c)] (setR σ0 1 r h) (Ex (some (.int (wSum (h 10) (h 4 c) (nW h)))) (setR σ0 1 r h)) := by
  refine Con_of [some (.ref (adr X 1 r 0)), some (.int (nI c))] (by decide) rfl (Nat.le_of_ble_eq_true rfl) ?_
  refine T_aload_n dX1_sum_0 rfl rfl ?_
  refine T_aload_n dX1_sum_1 rfl rfl ?_
  refine T_g1F hv1 6 (by decide) fl_X1_21 rfl dX1_sum_2 ?_
  refine T_iload_n dX1_sum_5 rfl rfl ?_
  refine T_ialdF (hv1 _ (by decide)) rfl (Nat.le_of_ble_eq_true rfl) _ (by omega) rfl dX1_sum_6 ?_
  refine T_vi (Rc_of (hv1 0 (by decide)) rfl rfl) (k_X1_weightOf hv1 hw) ml_X1_86 im_yX1_weightOf se_RX1_yX1_weightOf ini_RX1 co_yX1_weightOf rfl de_X1_weightOf (by decide) (by decide) rfl (Nat.le_of_ble_eq_true rfl) dX1_sum_7 ?_
  refine T_iret rfl dX1_sum_10 ?_
  exact ⟨rfl, rfl⟩
set_option maxHeartbeats 4000000 in
set_option maxRecDepth 100000 in
theorem k_X1_lack {X : Cx} {l : Launch} {σ0 : Hp} {h : Rg} {r : Nat} {c : Nat} (hv1 : Lv X 1 r) (hw : Wf h) (hc : c < 4) : Con X l yX1_lack cX1_lack 2 (some .int) 2 [.ref (adr X 1 r 0), .int (nI c)] (setR σ0 1 r h) (Ex (some (.int (wSum (h 10) (allS h &&& (h 4 c ^^^ -1)) (nW h)))) (setR σ0 1 r h)) := by
  refine Con_of [some (.ref (adr X 1 r 0)), some (.int (nI c))] (by decide) rfl (Nat.le_of_ble_eq_true rfl) ?_
  refine T_aload_n dX1_lack_0 rfl rfl ?_
  refine T_aload_n dX1_lack_1 rfl rfl ?_
  refine T_vi (Rc_of (hv1 0 (by decide)) rfl rfl) (k_X1_allWrites hv1) ml_X1_90 im_yX1_allWrites se_RX1_yX1_allWrites ini_RX1 co_yX1_allWrites rfl de_X1_allWrites (by decide) (by decide) rfl (Nat.le_of_ble_eq_true rfl) dX1_lack_2 ?_
  refine T_aload_n dX1_lack_5 rfl rfl ?_
  refine T_g1F hv1 6 (by decide) fl_X1_21 rfl dX1_lack_6 ?_
  refine T_iload_n dX1_lack_9 rfl rfl ?_
  refine T_ialdF (hv1 _ (by decide)) rfl (Nat.le_of_ble_eq_true rfl) _ (by omega) rfl dX1_lack_10 ?_
  refine T_iconst (v := -1) dX1_lack_11 rfl ?_
  refine T_ixor dX1_lack_12 ?_
  refine T_iand dX1_lack_13 ?_
  refine T_vi (Rc_of (hv1 0 (by decide)) rfl rfl) (k_X1_weightOf hv1 hw) ml_X1_86 im_yX1_weightOf se_RX1_yX1_weightOf ini_RX1 co_yX1_weightOf rfl de_X1_weightOf (by decide) (by decide) rfl (Nat.le_of_ble_eq_true rfl) dX1_lack_14 ?_
  refine T_iret rfl dX1_lack_17 ?_
  exact ⟨rfl, rfl⟩
set_option maxHeartbeats 4000000 in
set_option maxRecDepth 100000 in
theorem k_X1_slow {X : Cx} {l : Launch} {σ0 : Hp} {h : Rg} {r : Nat} {c : Nat} (hv1 : Lv X 1 r) (hc : c < 4) : Con X l yX1_slow cX1_slow 2 (some .int) 1 [.ref (adr X 1 r 0), .int (nI c)] (setR σ0 1 r h) (Ex (some (.int (slowS h c))) (setR σ0 1 r h)) := by
  refine Con_of [some (.ref (adr X 1 r 0)), some (.int (nI c))] (by decide) rfl (Nat.le_of_ble_eq_true rfl) ?_
  refine T_aload_n dX1_slow_0 rfl rfl ?_
  refine T_g1F hv1 6 (by decide) fl_X1_21 rfl dX1_slow_1 ?_
  refine T_iload_n dX1_slow_4 rfl rfl ?_
  refine T_ialdF (hv1 _ (by decide)) rfl (Nat.le_of_ble_eq_true rfl) _ (by omega) rfl dX1_slow_5 ?_
  refine T_aload_n dX1_slow_6 rfl rfl ?_
  refine T_g1F hv1 7 (by decide) fl_X1_24 rfl dX1_slow_7 ?_
  refine T_iload_n dX1_slow_10 rfl rfl ?_
  refine T_ialdF (hv1 _ (by decide)) rfl (Nat.le_of_ble_eq_true rfl) _ (by omega) rfl dX1_slow_11 ?_
  refine T_iconst (v := -1) dX1_slow_12 rfl ?_
  refine T_ixor dX1_slow_13 ?_
  refine T_iand dX1_slow_14 ?_
  refine T_si k_J6_bitCount_0f7a4 ml_X1_94 sm_yJ6_bitCount_0f7a4 ini_RJ6 co_yJ6_bitCount_0f7a4 de_J6_bitCount_0f7a4 (by decide) (by decide) rfl (Nat.le_of_ble_eq_true rfl) dX1_slow_15 ?_
  refine T_iret rfl dX1_slow_18 ?_
  exact ⟨rfl, rfl⟩
set_option maxHeartbeats 4000000 in
set_option maxRecDepth 100000 in
theorem k_X1_owed {X : Cx} {l : Launch} {σ0 : Hp} {h : Rg} {r : Nat} {c a : Nat} (hv1 : Lv X 1 r) (hw : Wf h) (hc : c < 4) (ha : a < 4) : Con X l yX1_owed cX1_owed 3 (some .int) 2 [.ref (adr X 1 r 0), .int (nI c), .int (nI a)] (setR σ0 1 r h) (Ex (some (.int (owedS h c a))) (setR σ0 1 r h)) := by
  refine Con_of [some (.ref (adr X 1 r 0)), some (.int (nI c)), some (.int (nI a))] (by decide) rfl (Nat.le_of_ble_eq_true rfl) ?_
  refine T_aload_n dX1_owed_0 rfl rfl ?_
  refine T_aload_n dX1_owed_1 rfl rfl ?_
  refine T_iload_n dX1_owed_2 rfl rfl ?_
  refine T_vi (Rc_of (hv1 0 (by decide)) rfl rfl) (k_X1_writesBy hv1 hw) ml_X1_99 im_yX1_writesBy se_RX1_yX1_writesBy ini_RX1 co_yX1_writesBy rfl de_X1_writesBy (by decide) (by decide) rfl (Nat.le_of_ble_eq_true rfl) dX1_owed_3 ?_
  refine T_aload_n dX1_owed_6 rfl rfl ?_
  refine T_g1F hv1 6 (by decide) fl_X1_21 rfl dX1_owed_7 ?_
  refine T_iload_n dX1_owed_10 rfl rfl ?_
  refine T_ialdF (hv1 _ (by decide)) rfl (Nat.le_of_ble_eq_true rfl) _ (by omega) rfl dX1_owed_11 ?_
  refine T_iconst (v := -1) dX1_owed_12 rfl ?_
  refine T_ixor dX1_owed_13 ?_
  refine T_iand dX1_owed_14 ?_
  refine T_vi (Rc_of (hv1 0 (by decide)) rfl rfl) (k_X1_weightOf hv1 hw) ml_X1_86 im_yX1_weightOf se_RX1_yX1_weightOf ini_RX1 co_yX1_weightOf rfl de_X1_weightOf (by decide) (by decide) rfl (Nat.le_of_ble_eq_true rfl) dX1_owed_15 ?_
  refine T_iret rfl dX1_owed_18 ?_
  exact ⟨rfl, rfl⟩
set_option maxHeartbeats 4000000 in
set_option maxRecDepth 100000 in
theorem k_X1_left {X : Cx} {l : Launch} {σ0 : Hp} {h : Rg} {r : Nat} {c a : Nat} (hv1 : Lv X 1 r) (hw : Wf h) (hc : c < 4) (ha : a < 4) : Con X l yX1_left cX1_left 3 (some .int) 3 [.ref (adr X 1 r 0), .int (nI c), .int (nI a)] (setR σ0 1 r h) (Ex (some (.int (leftS h c a))) (setR σ0 1 r h)) := by
  refine Con_of [some (.ref (adr X 1 r 0)), some (.int (nI c)), some (.int (nI a))] (by decide) rfl (Nat.le_of_ble_eq_true rfl) ?_
  refine T_aload_n dX1_left_0 rfl rfl ?_
  refine T_g1F hv1 9 (by decide) fl_X1_30 rfl dX1_left_1 ?_
  refine T_iload_n dX1_left_4 rfl rfl ?_
  refine T_iload_n dX1_left_5 rfl rfl ?_
  refine T_callSN k_X3_slot (fun _ h => h.2.2.1) sm_yX3_slot ini_RX3 co_yX3_slot de_X3_slot (by decide) (by decide) rfl (Nat.le_of_ble_eq_true rfl) dX1_left_6 ?_
  refine T_ialdF (hv1 _ (by decide)) rfl (Nat.le_of_ble_eq_true rfl) _ (by omega) rfl dX1_left_9 ?_
  refine T_aload_n dX1_left_10 rfl rfl ?_
  refine T_iload_n dX1_left_11 rfl rfl ?_
  refine T_iload_n dX1_left_12 rfl rfl ?_
  refine T_vi (Rc_of (hv1 0 (by decide)) rfl rfl) (k_X1_owed hv1 hw (by omega) (by omega)) ml_X1_102 im_yX1_owed se_RX1_yX1_owed ini_RX1 co_yX1_owed rfl de_X1_owed (by decide) (by decide) rfl (Nat.le_of_ble_eq_true rfl) dX1_left_13 ?_
  refine T_isub dX1_left_16 ?_
  refine T_iret rfl dX1_left_17 ?_
  exact ⟨rfl, rfl⟩
set_option maxHeartbeats 4000000 in
set_option maxRecDepth 100000 in
theorem k_X1_spare {X : Cx} {l : Launch} {σ0 : Hp} {h : Rg} {r : Nat} {c : Nat} (hv1 : Lv X 1 r) (hw : Wf h) (hc : c < 4) : Con X l yX1_spare cX1_spare 4 (some .int) 4 [.ref (adr X 1 r 0), .int (nI c)] (setR σ0 1 r h) (Ex (some (.int (spareS h c (nC h)))) (setR σ0 1 r h)) := by
  refine Con_of [some (.ref (adr X 1 r 0)), some (.int (nI c)), none, none] (by decide) rfl (Nat.le_of_ble_eq_true rfl) ?_
  have hN := hw.2.2.1
  have hlp : ∀ n k : Nat, k + n = nC h → T X l yX1_spare cX1_spare 4 (some .int) 4 5 [some (.ref (adr X 1 r 0)), some (.int (nI c)), some (.int (spareS h c k)), some (.int (nI k))] [] (setR σ0 1 r h) (Ex (some (.int (spareS h c (nC h)))) (setR σ0 1 r h)) := by
    intro n
    induction n with
    | zero =>
      intro k hk
      have hk : k = nC h := by omega
      subst hk
      refine T_iload_n dX1_spare_5 rfl rfl ?_
      refine T_aload_n dX1_spare_6 rfl rfl ?_
      refine T_g1F hv1 0 (by decide) fl_X1_48 rfl dX1_spare_7 ?_
      refine T_icmp_ge 35 dX1_spare_10 (by decide) (fun h10 => ?_) (fun h10 => (absurd (by rw [hw.1]; exact nI_le (Nat.le_refl _) (by omega)) h10))
      refine T_iload_n dX1_spare_35 rfl rfl ?_
      refine T_iret rfl dX1_spare_36 ?_
      exact ⟨rfl, rfl⟩
    | succ n ih =>
      intro k hk
      have hnx := ih (k + 1) (by omega)
      have hk : k < nC h := by omega
      refine T_iload_n dX1_spare_5 rfl rfl ?_
      refine T_aload_n dX1_spare_6 rfl rfl ?_
      refine T_g1F hv1 0 (by decide) fl_X1_48 rfl dX1_spare_7 ?_
      refine T_icmp_ge 35 dX1_spare_10 (by decide) (fun h10 => (absurd (hw.1 ▸ h10) (nI_ge hk (by omega)))) (fun h10 => ?_)
      refine T_iload_n dX1_spare_13 rfl rfl ?_
      refine T_iload_n dX1_spare_14 rfl rfl ?_
      refine T_icmp_eq 29 dX1_spare_15 (by decide) (fun h15 => ?_) (fun h15 => ?_)
      · first | refine T_iincN3 dX1_spare_29 rfl (by decide) ?_ | refine T_iinc3 dX1_spare_29 rfl rfl (by decide) ?_
        refine T_goto 5 dX1_spare_32 (by decide) ?_
        first | (rw [spareS, if_pos (nIe h15 (by omega) (by omega))] at hnx; exact hnx) | (rw [spareS, if_neg (nIn h15)] at hnx; exact hnx)
      · refine T_iload_n dX1_spare_18 rfl rfl ?_
        refine T_aload_n dX1_spare_19 rfl rfl ?_
        refine T_iload_n dX1_spare_20 rfl rfl ?_
        refine T_iload_n dX1_spare_21 rfl rfl ?_
        refine T_vi (Rc_of (hv1 0 (by decide)) rfl rfl) (k_X1_left hv1 hw (by omega) (by omega)) ml_X1_105 im_yX1_left se_RX1_yX1_left ini_RX1 co_yX1_left rfl de_X1_left (by decide) (by decide) rfl (Nat.le_of_ble_eq_true rfl) dX1_spare_22 ?_
        refine T_min ml_X1_108 sm_Lib_Math_min_name ini__java_lang_Math_ co_Lib_Math_min_name (by decide) (Nat.le_of_ble_eq_true rfl) dX1_spare_25 ?_
        refine T_istore2 dX1_spare_28 rfl (by decide) ?_
        first | refine T_iincN3 dX1_spare_29 rfl (by decide) ?_ | refine T_iinc3 dX1_spare_29 rfl rfl (by decide) ?_
        refine T_goto 5 dX1_spare_32 (by decide) ?_
        first | (rw [spareS, if_pos (nIe h15 (by omega) (by omega))] at hnx; exact hnx) | (rw [spareS, if_neg (nIn h15)] at hnx; exact hnx)
  refine T_bipush (v := nI 99) dX1_spare_0 (by decide) ?_
  refine T_istore2 dX1_spare_2 rfl (by decide) ?_
  refine T_iconst (v := nI 0) dX1_spare_3 rfl ?_
  refine T_istore3 dX1_spare_4 rfl (by decide) ?_
  exact hlp (nC h) 0 (by omega)
set_option maxHeartbeats 4000000 in
set_option maxRecDepth 100000 in
theorem k_X1_copiesWith4 {X : Cx} {l : Launch} {σ0 : Hp} {h : Rg} {r : Nat} {s : Int32} (hv1 : Lv X 1 r) (hw : Wf h) : Con X l yX1_copiesWith cX1_copiesWith 5 (some .int) 0 [.ref (adr X 1 r 0), .ref (adr X 1 r 4), .int s] (setR σ0 1 r h) (Ex (some (.int (withS (h 4) s (nC h)))) (setR σ0 1 r h)) := by
  refine Con_of [some (.ref (adr X 1 r 0)), some (.ref (adr X 1 r 4)), some (.int s), none, none] (by decide) rfl (Nat.le_of_ble_eq_true rfl) ?_
  have hN := hw.2.2.1
  have hlp : ∀ n k : Nat, k + n = nC h → T X l yX1_copiesWith cX1_copiesWith 5 (some .int) 0 5 [some (.ref (adr X 1 r 0)), some (.ref (adr X 1 r 4)), some (.int s), some (.int (withS (h 4) s k)), some (.int (nI k))] [] (setR σ0 1 r h) (Ex (some (.int (withS (h 4) s (nC h)))) (setR σ0 1 r h)) := by
    intro n
    induction n with
    | zero =>
      intro k hk
      have hk : k = nC h := by omega
      subst hk
      refine T_iload dX1_copiesWith_5 rfl ?_
      refine T_aload_n dX1_copiesWith_7 rfl rfl ?_
      refine T_g1F hv1 0 (by decide) fl_X1_48 rfl dX1_copiesWith_8 ?_
      refine T_icmp_ge 37 dX1_copiesWith_11 (by decide) (fun h11 => ?_) (fun h11 => (absurd (by rw [hw.1]; exact nI_le (Nat.le_refl _) (by omega)) h11))
      refine T_iload_n dX1_copiesWith_37 rfl rfl ?_
      refine T_iret rfl dX1_copiesWith_38 ?_
      exact ⟨rfl, rfl⟩
    | succ n ih =>
      intro k hk
      have hnx := ih (k + 1) (by omega)
      have hk : k < nC h := by omega
      refine T_iload dX1_copiesWith_5 rfl ?_
      refine T_aload_n dX1_copiesWith_7 rfl rfl ?_
      refine T_g1F hv1 0 (by decide) fl_X1_48 rfl dX1_copiesWith_8 ?_
      refine T_icmp_ge 37 dX1_copiesWith_11 (by decide) (fun h11 => (absurd (hw.1 ▸ h11) (nI_ge hk (by omega)))) (fun h11 => ?_)
      refine T_aload_n dX1_copiesWith_14 rfl rfl ?_
      refine T_iload dX1_copiesWith_15 rfl ?_
      refine T_ialdF (hv1 _ (by decide)) rfl (Nat.le_of_ble_eq_true rfl) _ (by omega) rfl dX1_copiesWith_17 ?_
      refine T_iload_n dX1_copiesWith_18 rfl rfl ?_
      refine T_iand dX1_copiesWith_19 ?_
      refine T_iload_n dX1_copiesWith_20 rfl rfl ?_
      refine T_icmp_ne 31 dX1_copiesWith_21 (by decide) (fun h21 => ?_) (fun h21 => ?_)
      · first | refine T_iincN4 dX1_copiesWith_31 rfl (by decide) ?_ | refine T_iinc4 dX1_copiesWith_31 rfl rfl (by decide) ?_
        refine T_goto 5 dX1_copiesWith_34 (by decide) ?_
        first | (rw [withS, if_pos h21] at hnx; exact hnx) | (rw [withS, if_neg h21] at hnx; exact hnx)
      · refine T_iload_n dX1_copiesWith_24 rfl rfl ?_
        refine T_iconst (v := nI 1) dX1_copiesWith_25 rfl ?_
        refine T_iload dX1_copiesWith_26 rfl ?_
        refine T_ishl dX1_copiesWith_28 ?_
        refine T_ior dX1_copiesWith_29 ?_
        refine T_istore3 dX1_copiesWith_30 rfl (by decide) ?_
        first | refine T_iincN4 dX1_copiesWith_31 rfl (by decide) ?_ | refine T_iinc4 dX1_copiesWith_31 rfl rfl (by decide) ?_
        refine T_goto 5 dX1_copiesWith_34 (by decide) ?_
        first | (rw [withS, if_pos h21] at hnx; exact hnx) | (rw [withS, if_neg h21] at hnx; exact hnx)
  refine T_iconst (v := nI 0) dX1_copiesWith_0 rfl ?_
  refine T_istore3 dX1_copiesWith_1 rfl (by decide) ?_
  refine T_iconst (v := nI 0) dX1_copiesWith_2 rfl ?_
  refine T_istore4 dX1_copiesWith_3 rfl (by decide) ?_
  exact hlp (nC h) 0 (by omega)
set_option maxHeartbeats 4000000 in
set_option maxRecDepth 100000 in
theorem k_X1_copiesWith5 {X : Cx} {l : Launch} {σ0 : Hp} {h : Rg} {r : Nat} {s : Int32} (hv1 : Lv X 1 r) (hw : Wf h) : Con X l yX1_copiesWith cX1_copiesWith 5 (some .int) 0 [.ref (adr X 1 r 0), .ref (adr X 1 r 5), .int s] (setR σ0 1 r h) (Ex (some (.int (withS (h 5) s (nC h)))) (setR σ0 1 r h)) := by
  refine Con_of [some (.ref (adr X 1 r 0)), some (.ref (adr X 1 r 5)), some (.int s), none, none] (by decide) rfl (Nat.le_of_ble_eq_true rfl) ?_
  have hN := hw.2.2.1
  have hlp : ∀ n k : Nat, k + n = nC h → T X l yX1_copiesWith cX1_copiesWith 5 (some .int) 0 5 [some (.ref (adr X 1 r 0)), some (.ref (adr X 1 r 5)), some (.int s), some (.int (withS (h 5) s k)), some (.int (nI k))] [] (setR σ0 1 r h) (Ex (some (.int (withS (h 5) s (nC h)))) (setR σ0 1 r h)) := by
    intro n
    induction n with
    | zero =>
      intro k hk
      have hk : k = nC h := by omega
      subst hk
      refine T_iload dX1_copiesWith_5 rfl ?_
      refine T_aload_n dX1_copiesWith_7 rfl rfl ?_
      refine T_g1F hv1 0 (by decide) fl_X1_48 rfl dX1_copiesWith_8 ?_
      refine T_icmp_ge 37 dX1_copiesWith_11 (by decide) (fun h11 => ?_) (fun h11 => (absurd (by rw [hw.1]; exact nI_le (Nat.le_refl _) (by omega)) h11))
      refine T_iload_n dX1_copiesWith_37 rfl rfl ?_
      refine T_iret rfl dX1_copiesWith_38 ?_
      exact ⟨rfl, rfl⟩
    | succ n ih =>
      intro k hk
      have hnx := ih (k + 1) (by omega)
      have hk : k < nC h := by omega
      refine T_iload dX1_copiesWith_5 rfl ?_
      refine T_aload_n dX1_copiesWith_7 rfl rfl ?_
      refine T_g1F hv1 0 (by decide) fl_X1_48 rfl dX1_copiesWith_8 ?_
      refine T_icmp_ge 37 dX1_copiesWith_11 (by decide) (fun h11 => (absurd (hw.1 ▸ h11) (nI_ge hk (by omega)))) (fun h11 => ?_)
      refine T_aload_n dX1_copiesWith_14 rfl rfl ?_
      refine T_iload dX1_copiesWith_15 rfl ?_
      refine T_ialdF (hv1 _ (by decide)) rfl (Nat.le_of_ble_eq_true rfl) _ (by omega) rfl dX1_copiesWith_17 ?_
      refine T_iload_n dX1_copiesWith_18 rfl rfl ?_
      refine T_iand dX1_copiesWith_19 ?_
      refine T_iload_n dX1_copiesWith_20 rfl rfl ?_
      refine T_icmp_ne 31 dX1_copiesWith_21 (by decide) (fun h21 => ?_) (fun h21 => ?_)
      · first | refine T_iincN4 dX1_copiesWith_31 rfl (by decide) ?_ | refine T_iinc4 dX1_copiesWith_31 rfl rfl (by decide) ?_
        refine T_goto 5 dX1_copiesWith_34 (by decide) ?_
        first | (rw [withS, if_pos h21] at hnx; exact hnx) | (rw [withS, if_neg h21] at hnx; exact hnx)
      · refine T_iload_n dX1_copiesWith_24 rfl rfl ?_
        refine T_iconst (v := nI 1) dX1_copiesWith_25 rfl ?_
        refine T_iload dX1_copiesWith_26 rfl ?_
        refine T_ishl dX1_copiesWith_28 ?_
        refine T_ior dX1_copiesWith_29 ?_
        refine T_istore3 dX1_copiesWith_30 rfl (by decide) ?_
        first | refine T_iincN4 dX1_copiesWith_31 rfl (by decide) ?_ | refine T_iinc4 dX1_copiesWith_31 rfl rfl (by decide) ?_
        refine T_goto 5 dX1_copiesWith_34 (by decide) ?_
        first | (rw [withS, if_pos h21] at hnx; exact hnx) | (rw [withS, if_neg h21] at hnx; exact hnx)
  refine T_iconst (v := nI 0) dX1_copiesWith_0 rfl ?_
  refine T_istore3 dX1_copiesWith_1 rfl (by decide) ?_
  refine T_iconst (v := nI 0) dX1_copiesWith_2 rfl ?_
  refine T_istore4 dX1_copiesWith_3 rfl (by decide) ?_
  exact hlp (nC h) 0 (by omega)
set_option maxHeartbeats 4000000 in
set_option maxRecDepth 100000 in
theorem k_X1_pushesFor {X : Cx} {l : Launch} {σ0 : Hp} {h : Rg} {r : Nat} {c : Nat} {m : Int32} (hv1 : Lv X 1 r) (hw : Wf h) (hc : c < 4) : Con X l yX1_pushesFor cX1_pushesFor 5 (some .int) 4 [.ref (adr X 1 r 0), .int (nI c), .int m] (setR σ0 1 r h) (Ex (some (.int (nI (pforS h c m (nC h))))) (setR σ0 1 r h)) := by
  refine Con_of [some (.ref (adr X 1 r 0)), some (.int (nI c)), some (.int m), none, none] (by decide) rfl (Nat.le_of_ble_eq_true rfl) ?_
  have hN := hw.2.2.1
  have hlp : ∀ n k : Nat, k + n = nC h → T X l yX1_pushesFor cX1_pushesFor 5 (some .int) 4 5 [some (.ref (adr X 1 r 0)), some (.int (nI c)), some (.int m), some (.int (nI (pforS h c m k))), some (.int (nI k))] [] (setR σ0 1 r h) (Ex (some (.int (nI (pforS h c m (nC h))))) (setR σ0 1 r h)) := by
    intro n
    induction n with
    | zero =>
      intro k hk
      have hk : k = nC h := by omega
      subst hk
      refine T_iload dX1_pushesFor_5 rfl ?_
      refine T_aload_n dX1_pushesFor_7 rfl rfl ?_
      refine T_g1F hv1 0 (by decide) fl_X1_48 rfl dX1_pushesFor_8 ?_
      refine T_icmp_ge 40 dX1_pushesFor_11 (by decide) (fun h11 => ?_) (fun h11 => (absurd (by rw [hw.1]; exact nI_le (Nat.le_refl _) (by omega)) h11))
      refine T_iload_n dX1_pushesFor_40 rfl rfl ?_
      refine T_iret rfl dX1_pushesFor_41 ?_
      exact ⟨rfl, rfl⟩
    | succ n ih =>
      intro k hk
      have hnx := ih (k + 1) (by omega)
      have hk : k < nC h := by omega
      refine T_iload dX1_pushesFor_5 rfl ?_
      refine T_aload_n dX1_pushesFor_7 rfl rfl ?_
      refine T_g1F hv1 0 (by decide) fl_X1_48 rfl dX1_pushesFor_8 ?_
      refine T_icmp_ge 40 dX1_pushesFor_11 (by decide) (fun h11 => (absurd (hw.1 ▸ h11) (nI_ge hk (by omega)))) (fun h11 => ?_)
      refine T_iload dX1_pushesFor_14 rfl ?_
      refine T_iload_n dX1_pushesFor_16 rfl rfl ?_
      refine T_icmp_eq 34 dX1_pushesFor_17 (by decide) (fun h17 => ?_) (fun h17 => ?_)
      · first | refine T_iincN4 dX1_pushesFor_34 rfl (by decide) ?_ | refine T_iinc4 dX1_pushesFor_34 rfl rfl (by decide) ?_
        refine T_goto 5 dX1_pushesFor_37 (by decide) ?_
        first | (rw [pforS, if_pos (nIe h17 (by omega) (by omega))] at hnx; exact hnx) | (rw [pforS, if_neg (nIn h17), if_pos h28] at hnx; exact hnx) | (rw [pforS, if_neg (nIn h17), if_neg h28] at hnx; exact hnx)
      · refine T_aload_n dX1_pushesFor_20 rfl rfl ?_
        refine T_iload_n dX1_pushesFor_21 rfl rfl ?_
        refine T_iload dX1_pushesFor_22 rfl ?_
        refine T_vi (Rc_of (hv1 0 (by decide)) rfl rfl) (k_X1_left hv1 hw (by omega) (by omega)) ml_X1_105 im_yX1_left se_RX1_yX1_left ini_RX1 co_yX1_left rfl de_X1_left (by decide) (by decide) rfl (Nat.le_of_ble_eq_true rfl) dX1_pushesFor_24 ?_
        refine T_iload_n dX1_pushesFor_27 rfl rfl ?_
        refine T_icmp_ge 34 dX1_pushesFor_28 (by decide) (fun h28 => ?_) (fun h28 => ?_)
        · first | refine T_iincN4 dX1_pushesFor_34 rfl (by decide) ?_ | refine T_iinc4 dX1_pushesFor_34 rfl rfl (by decide) ?_
          refine T_goto 5 dX1_pushesFor_37 (by decide) ?_
          first | (rw [pforS, if_pos (nIe h17 (by omega) (by omega))] at hnx; exact hnx) | (rw [pforS, if_neg (nIn h17), if_pos h28] at hnx; exact hnx) | (rw [pforS, if_neg (nIn h17), if_neg h28] at hnx; exact hnx)
        · first | refine T_iincN3 dX1_pushesFor_31 rfl (by decide) ?_ | refine T_iinc3 dX1_pushesFor_31 rfl rfl (by decide) ?_
          first | refine T_iincN4 dX1_pushesFor_34 rfl (by decide) ?_ | refine T_iinc4 dX1_pushesFor_34 rfl rfl (by decide) ?_
          refine T_goto 5 dX1_pushesFor_37 (by decide) ?_
          first | (rw [pforS, if_pos (nIe h17 (by omega) (by omega))] at hnx; exact hnx) | (rw [pforS, if_neg (nIn h17), if_pos h28] at hnx; exact hnx) | (rw [pforS, if_neg (nIn h17), if_neg h28] at hnx; exact hnx)
  refine T_iconst (v := nI 0) dX1_pushesFor_0 rfl ?_
  refine T_istore3 dX1_pushesFor_1 rfl (by decide) ?_
  refine T_iconst (v := nI 0) dX1_pushesFor_2 rfl ?_
  refine T_istore4 dX1_pushesFor_3 rfl (by decide) ?_
  exact hlp (nC h) 0 (by omega)
set_option maxHeartbeats 4000000 in
set_option maxRecDepth 100000 in
theorem k_X1_learn {X : Cx} {l : Launch} {σ0 : Hp} {h : Rg} {r : Nat} {a : Nat} {s : Int32} (hv1 : Lv X 1 r) (ha : a < 4) : Con X l yX1_learn cX1_learn 3 none 0 [.ref (adr X 1 r 0), .int (nI a), .int s] (setR σ0 1 r h) (Ex none (setR σ0 1 r (learnS h a s))) := by
  refine Con_of [some (.ref (adr X 1 r 0)), some (.int (nI a)), some (.int s)] (by decide) rfl (Nat.le_of_ble_eq_true rfl) ?_
  refine T_aload_n dX1_learn_0 rfl rfl ?_
  refine T_g1F hv1 6 (by decide) fl_X1_21 rfl dX1_learn_1 ?_
  refine T_iload_n dX1_learn_4 rfl rfl ?_
  refine T_dup2 dX1_learn_5 rfl rfl ?_
  refine T_ialdF (hv1 _ (by decide)) rfl (Nat.le_of_ble_eq_true rfl) _ (by omega) rfl dX1_learn_6 ?_
  refine T_iload_n dX1_learn_7 rfl rfl ?_
  refine T_ior dX1_learn_8 ?_
  refine T_iastF (hv1 _ (by decide)) (fun _ => rfl) (Nat.le_of_ble_eq_true rfl) _ (by omega) rfl dX1_learn_9 ?_
  refine T_aload_n dX1_learn_10 rfl rfl ?_
  refine T_g1F hv1 7 (by decide) fl_X1_24 rfl dX1_learn_11 ?_
  refine T_iconst (v := nI 0) dX1_learn_14 rfl ?_
  refine T_aload_n dX1_learn_15 rfl rfl ?_
  refine T_g1F hv1 6 (by decide) fl_X1_21 rfl dX1_learn_16 ?_
  refine T_iconst (v := nI 0) dX1_learn_19 rfl ?_
  refine T_ialdF (hv1 _ (by decide)) rfl (Nat.le_of_ble_eq_true rfl) _ (by omega) rfl dX1_learn_20 ?_
  refine T_iastF (hv1 _ (by decide)) (fun _ => rfl) (Nat.le_of_ble_eq_true rfl) _ (by omega) rfl dX1_learn_21 ?_
  refine T_vret rfl dX1_learn_22 ?_
  exact ⟨rfl, rfl⟩
set_option maxHeartbeats 4000000 in
set_option maxRecDepth 100000 in
theorem k_X1_pushIfOver {X : Cx} {l : Launch} {σ0 : Hp} {h : Rg} {r : Nat} {c a : Nat} (hv1 : Lv X 1 r) (hw : Wf h) (hc : c < 4) (ha : a < 4) : Con X l yX1_pushIfOver cX1_pushIfOver 3 (some .boolean) 4 [.ref (adr X 1 r 0), .int (nI c), .int (nI a)] (setR σ0 1 r h) (Ex (some (.int (if leftS h c a < 0 then nI 1 else nI 0))) (setR σ0 1 r (pifS h c a))) := by
  refine Con_of [some (.ref (adr X 1 r 0)), some (.int (nI c)), some (.int (nI a))] (by decide) rfl (Nat.le_of_ble_eq_true rfl) ?_
  refine T_aload_n dX1_pushIfOver_0 rfl rfl ?_
  refine T_iload_n dX1_pushIfOver_1 rfl rfl ?_
  refine T_iload_n dX1_pushIfOver_2 rfl rfl ?_
  refine T_vi (Rc_of (hv1 0 (by decide)) rfl rfl) (k_X1_left hv1 hw (by omega) (by omega)) ml_X1_105 im_yX1_left se_RX1_yX1_left ini_RX1 co_yX1_left rfl de_X1_left (by decide) (by decide) rfl (Nat.le_of_ble_eq_true rfl) dX1_pushIfOver_3 ?_
  refine T_if_lt 11 dX1_pushIfOver_6 (by decide) (fun h6 => ?_) (fun h6 => ?_)
  · refine T_aload_n dX1_pushIfOver_11 rfl rfl ?_
    refine T_iload_n dX1_pushIfOver_12 rfl rfl ?_
    refine T_aload_n dX1_pushIfOver_13 rfl rfl ?_
    refine T_iload_n dX1_pushIfOver_14 rfl rfl ?_
    refine T_vi (Rc_of (hv1 0 (by decide)) rfl rfl) (k_X1_writesBy hv1 hw) ml_X1_99 im_yX1_writesBy se_RX1_yX1_writesBy ini_RX1 co_yX1_writesBy rfl de_X1_writesBy (by decide) (by decide) rfl (Nat.le_of_ble_eq_true rfl) dX1_pushIfOver_15 ?_
    refine T_vv (Rc_of (hv1 0 (by decide)) rfl rfl) (k_X1_learn hv1 (by omega)) ml_X1_113 im_yX1_learn se_RX1_yX1_learn ini_RX1 co_yX1_learn rfl de_X1_learn (by decide) (by decide) rfl (Nat.le_of_ble_eq_true rfl) dX1_pushIfOver_18 ?_
    refine T_aload_n dX1_pushIfOver_21 rfl rfl ?_
    refine T_g1F hv1 8 (by decide) fl_X1_27 rfl dX1_pushIfOver_22 ?_
    refine T_iload_n dX1_pushIfOver_25 rfl rfl ?_
    refine T_iload_n dX1_pushIfOver_26 rfl rfl ?_
    refine T_callSN k_X3_slot (fun _ h => h.2.2.1) sm_yX3_slot ini_RX3 co_yX3_slot de_X3_slot (by decide) (by decide) rfl (Nat.le_of_ble_eq_true rfl) dX1_pushIfOver_27 ?_
    refine T_aload_n dX1_pushIfOver_30 rfl rfl ?_
    refine T_g1F hv1 1 (by decide) fl_X1_52 rfl dX1_pushIfOver_31 ?_
    refine T_iastF (hv1 _ (by decide)) (fun _ => rfl) (Nat.le_of_ble_eq_true rfl) _ (by omega) rfl dX1_pushIfOver_34 ?_
    refine T_iconst (v := nI 1) dX1_pushIfOver_35 rfl ?_
    refine T_zret (ty := .boolean) rfl (by decide) dX1_pushIfOver_36 ?_
    exact ⟨by rw [if_pos h6], by rw [pifS, if_pos h6]; rfl⟩
  · refine T_iconst (v := nI 0) dX1_pushIfOver_9 rfl ?_
    refine T_zret (ty := .boolean) rfl (by decide) dX1_pushIfOver_10 ?_
    exact ⟨by rw [if_neg h6], by rw [pifS, if_neg h6]⟩
set_option maxHeartbeats 4000000 in
set_option maxRecDepth 100000 in
theorem k_X1_accept {X : Cx} {l : Launch} {σ0 : Hp} {h : Rg} {r : Nat} {c : Nat} {w : Int32} (hv1 : Lv X 1 r) (hw : Wf h) (hM : nW h < 24) (hc : c < 4) : Con X l yX1_accept cX1_accept 5 (some .int) 5 [.ref (adr X 1 r 0), .int (nI c), .int w] (setR σ0 1 r h) (Ex (some (.int (nI (accS (newWS h c w) c (nC h)).2))) (setR σ0 1 r (accS (newWS h c w) c (nC h)).1)) := by
  refine Con_of [some (.ref (adr X 1 r 0)), some (.int (nI c)), some (.int w), none, none] (by decide) rfl (Nat.le_of_ble_eq_true rfl) ?_
  have hN := hw.2.2.1
  obtain ⟨hw1, hc1, -⟩ := newWS_W hw hM c w
  have hwk : ∀ k, Wf (accS (newWS h c w) c k).1 := fun k => hw1.congr (accS_0 _ _ k)
  have hck : ∀ k, (accS (newWS h c w) c k).1 0 0 = nI (nC h) := fun k => by rw [accS_0, ← hc1]; exact hw1.1
  have hlp : ∀ n k : Nat, k + n = nC h → T X l yX1_accept cX1_accept 5 (some .int) 5 59 [some (.ref (adr X 1 r 0)), some (.int (nI c)), some (.int w), some (.int (nI (accS (newWS h c w) c k).2)), some (.int (nI k))] [] (setR σ0 1 r (accS (newWS h c w) c k).1) (Ex (some (.int (nI (accS (newWS h c w) c (nC h)).2))) (setR σ0 1 r (accS (newWS h c w) c (nC h)).1)) := by
    intro n
    induction n with
    | zero =>
      intro k hk
      have hk : k = nC h := by omega
      subst hk
      refine T_iload dX1_accept_59 rfl ?_
      refine T_aload_n dX1_accept_61 rfl rfl ?_
      refine T_g1F hv1 0 (by decide) fl_X1_48 rfl dX1_accept_62 ?_
      refine T_icmp_ge 93 dX1_accept_65 (by decide) (fun h65 => ?_) (fun h65 => (absurd (by rw [hck]; exact nI_le (Nat.le_refl _) (by omega)) h65))
      refine T_iload_n dX1_accept_93 rfl rfl ?_
      refine T_iret rfl dX1_accept_94 ?_
      exact ⟨rfl, rfl⟩
    | succ n ih =>
      intro k hk
      have hnx := ih (k + 1) (by omega)
      have hk : k < nC h := by omega
      refine T_iload dX1_accept_59 rfl ?_
      refine T_aload_n dX1_accept_61 rfl rfl ?_
      refine T_g1F hv1 0 (by decide) fl_X1_48 rfl dX1_accept_62 ?_
      refine T_icmp_ge 93 dX1_accept_65 (by decide) (fun h65 => (absurd ((hck k) ▸ h65) (nI_ge hk (by omega)))) (fun h65 => ?_)
      refine T_iload dX1_accept_68 rfl ?_
      refine T_iload_n dX1_accept_70 rfl rfl ?_
      refine T_icmp_eq 87 dX1_accept_71 (by decide) (fun h71 => ?_) (fun h71 => ?_)
      · first | refine T_iincN4 dX1_accept_87 rfl (by decide) ?_ | refine T_iinc4 dX1_accept_87 rfl rfl (by decide) ?_
        refine T_goto 59 dX1_accept_90 (by decide) ?_
        first | (rw [accS, if_pos (nIe h71 (by omega) (by omega))] at hnx; exact hnx) | (rw [accS, if_neg (nIn h71), if_pos (b01_1 h81)] at hnx; rw [pifS, if_pos (b01_1 h81)]; exact hnx) | (rw [accS, if_neg (nIn h71), if_neg (b01_0 h81)] at hnx; rw [pifS, if_neg (b01_0 h81)]; exact hnx)
      · refine T_aload_n dX1_accept_74 rfl rfl ?_
        refine T_iload_n dX1_accept_75 rfl rfl ?_
        refine T_iload dX1_accept_76 rfl ?_
        refine T_vi (Rc_of (hv1 0 (by decide)) rfl rfl) (k_X1_pushIfOver hv1 (hwk k) (by omega) (by omega)) ml_X1_117 im_yX1_pushIfOver se_RX1_yX1_pushIfOver ini_RX1 co_yX1_pushIfOver rfl de_X1_pushIfOver (by decide) (by decide) rfl (Nat.le_of_ble_eq_true rfl) dX1_accept_78 ?_
        refine T_if_eq 87 dX1_accept_81 (by decide) (fun h81 => ?_) (fun h81 => ?_)
        · first | refine T_iincN4 dX1_accept_87 rfl (by decide) ?_ | refine T_iinc4 dX1_accept_87 rfl rfl (by decide) ?_
          refine T_goto 59 dX1_accept_90 (by decide) ?_
          first | (rw [accS, if_pos (nIe h71 (by omega) (by omega))] at hnx; exact hnx) | (rw [accS, if_neg (nIn h71), if_pos (b01_1 h81)] at hnx; rw [pifS, if_pos (b01_1 h81)]; exact hnx) | (rw [accS, if_neg (nIn h71), if_neg (b01_0 h81)] at hnx; rw [pifS, if_neg (b01_0 h81)]; exact hnx)
        · first | refine T_iincN3 dX1_accept_84 rfl (by decide) ?_ | refine T_iinc3 dX1_accept_84 rfl rfl (by decide) ?_
          first | refine T_iincN4 dX1_accept_87 rfl (by decide) ?_ | refine T_iinc4 dX1_accept_87 rfl rfl (by decide) ?_
          refine T_goto 59 dX1_accept_90 (by decide) ?_
          first | (rw [accS, if_pos (nIe h71 (by omega) (by omega))] at hnx; exact hnx) | (rw [accS, if_neg (nIn h71), if_pos (b01_1 h81)] at hnx; rw [pifS, if_pos (b01_1 h81)]; exact hnx) | (rw [accS, if_neg (nIn h71), if_neg (b01_0 h81)] at hnx; rw [pifS, if_neg (b01_0 h81)]; exact hnx)
  refine T_aload_n dX1_accept_0 rfl rfl ?_
  refine T_g1F hv1 10 (by decide) fl_X1_33 rfl dX1_accept_1 ?_
  refine T_aload_n dX1_accept_4 rfl rfl ?_
  refine T_g1F hv1 2 (by decide) fl_X1_55 rfl dX1_accept_5 ?_
  refine T_iload_n dX1_accept_8 rfl rfl ?_
  refine T_iastF (hv1 _ (by decide)) (fun _ => rfl) (Nat.le_of_ble_eq_true rfl) (nW h) (by omega) (hw.2.2.2.1) dX1_accept_9 ?_
  refine T_aload_n dX1_accept_10 rfl rfl ?_
  refine T_g1F hv1 11 (by decide) fl_X1_36 rfl dX1_accept_11 ?_
  refine T_aload_n dX1_accept_14 rfl rfl ?_
  refine T_g1F hv1 2 (by decide) fl_X1_55 rfl dX1_accept_15 ?_
  refine T_aload_n dX1_accept_18 rfl rfl ?_
  refine T_g1F hv1 1 (by decide) fl_X1_52 rfl dX1_accept_19 ?_
  refine T_iastF (hv1 _ (by decide)) (fun _ => rfl) (Nat.le_of_ble_eq_true rfl) (nW h) (by omega) (hw.2.2.2.1) dX1_accept_22 ?_
  refine T_aload_n dX1_accept_23 rfl rfl ?_
  refine T_g1F hv1 12 (by decide) fl_X1_39 rfl dX1_accept_24 ?_
  refine T_aload_n dX1_accept_27 rfl rfl ?_
  refine T_g1F hv1 2 (by decide) fl_X1_55 rfl dX1_accept_28 ?_
  refine T_iload_n dX1_accept_31 rfl rfl ?_
  refine T_iastF (hv1 _ (by decide)) (fun _ => rfl) (Nat.le_of_ble_eq_true rfl) (nW h) (by omega) (hw.2.2.2.1) dX1_accept_32 ?_
  refine T_aload_n dX1_accept_33 rfl rfl ?_
  refine T_iload_n dX1_accept_34 rfl rfl ?_
  refine T_iconst (v := nI 1) dX1_accept_35 rfl ?_
  refine T_aload_n dX1_accept_36 rfl rfl ?_
  refine T_g1F hv1 2 (by decide) fl_X1_55 rfl dX1_accept_37 ?_
  refine T_ishl dX1_accept_40 ?_
  refine T_vv (Rc_of (hv1 0 (by decide)) rfl rfl) (k_X1_learn hv1 (by omega)) ml_X1_113 im_yX1_learn se_RX1_yX1_learn ini_RX1 co_yX1_learn rfl de_X1_learn (by decide) (by decide) rfl (Nat.le_of_ble_eq_true rfl) dX1_accept_41 ?_
  refine T_aload_n dX1_accept_44 rfl rfl ?_
  refine T_dup dX1_accept_45 rfl ?_
  refine T_g1F hv1 2 (by decide) fl_X1_55 rfl dX1_accept_46 ?_
  refine T_iconst (v := nI 1) dX1_accept_49 rfl ?_
  refine T_iadd dX1_accept_50 ?_
  refine T_p1F hv1 2 (by decide) rfl rfl fl_X1_55 (by decide) rfl dX1_accept_51 ?_
  refine T_iconst (v := nI 0) dX1_accept_54 rfl ?_
  refine T_istore3 dX1_accept_55 rfl (by decide) ?_
  refine T_iconst (v := nI 0) dX1_accept_56 rfl ?_
  refine T_istore4 dX1_accept_57 rfl (by decide) ?_
  exact hlp (nC h) 0 (by omega)
