theorem rem_11 (σ : Hp) (nx kn : Nat) : remS σ nx kn 1 1 = σ 1 1 := by
  unfold remS
  rw [setR_ne (by omega), setR_ne (by omega)]
theorem con_u2 {X : Cx} {l : Launch} {y : MethodName} {cc : ByteArray} {nL : Nat} {ret : Option FieldType} {d : Nat} {As : List Value} {σ : Hp} {h' t' : Rg} {a : Option Value} (hc : Con X l y cc nL ret d As (setR (setR σ 1 1 (σ 1 1)) 3 0 (σ 3 0)) (Ex a (setR (setR σ 1 1 h') 3 0 t'))) : Con X l y cc nL ret d As σ (Ex a (setR (setR σ 1 1 h') 3 0 t')) := by
  rw [setR_id, setR_id] at hc
  exact hc
theorem tab_out {x : Int32} {n : Nat} (hn : n < 2 ^ 31) (h : ∀ k, k ≤ n → ¬ x = nI k) : x.toInt < 0 ∨ (n : Int) < x.toInt := by
  by_cases h0 : x < 0
  · left
    rw [Int32.lt_iff_toInt_lt] at h0
    exact h0
  · obtain ⟨j, hj, rfl⟩ := nI_of h0
    right
    rw [nI_toInt hj]
    have : ¬ j ≤ n := fun z => h j z rfl
    omega
/-- the text's end: what parsing gives -/
noncomputable def prS (σ : Hp) : Int32 × Nat × Rg := plS (finS (σ 3 0) (tL σ)) 82 0 (newS (σ 1 1)) 0
noncomputable def tel1 (σ : Hp) : Hp := setR (setR σ 1 1 (prS σ).2.2) 3 0 (tk (finS (σ 3 0) (tL σ)) (prS σ).2.1)
noncomputable def tel2 (σ : Hp) : Hp := setR (setR (remS (tel1 σ) (nX σ) (kN σ)) 1 0 (prS σ).2.2) 3 0 (up2 (tk (finS (σ 3 0) (tL σ)) (prS σ).2.1) 0 1 (nI 0))
def cpS (h : Rg) (i : Nat) : Nat → Int32
  | 0 => h 1 i
  | 1 => h 2 i
  | 2 => h 3 i
  | 3 => h 4 i
  | 4 => h 5 i
  | 5 => wSum (h 10) (h 4 i) (nW h)
  | 6 => wSum (h 10) (allS h &&& (h 4 i ^^^ -1)) (nW h)
  | 7 => slowS h i
  | 8 => nI (readS h i).2
  | _ => spareS h i (nC h)
def prsS (h : Rg) (i j : Nat) : Nat → Int32
  | 0 => h 6 (i * 4 + j)
  | 1 => h 7 (i * 4 + j)
  | 2 => owedS h j i
  | _ => leftS h j i
def wrS (h : Rg) (w : Nat) : Nat → Int32
  | 0 => h 8 w
  | 1 => h 10 w
  | 2 => h 9 w
  | 3 => withS (h 4) (nI 1 <<< (nI w &&& 31)) (nC h)
  | _ => withS (h 5) (nI 1 <<< (nI w &&& 31)) (nC h)
def cnS (σ : Hp) : Nat → Int32
  | 0 => σ 1 0 0 0
  | 1 => σ 1 0 0 1
  | 2 => σ 1 0 0 2
  | 3 => wSum (σ 1 0 10) (allS (σ 1 0)) (nW (σ 1 0))
  | 4 => withS (σ 1 0 4) (allS (σ 1 0)) (nC (σ 1 0))
  | 5 => σ 0 0 0 8
  | 6 => σ 3 0 0 1
  | _ => σ 2 0 0 2
noncomputable def askS (M : Nat → Int32) : Nat → Int32 × Int32
  | 0 => (-9, nI 5)
  | k + 1 => if M k < (askS M k).2 then (nI k, M k) else askS M k
theorem alkS_congr {an bn : Nat → Int32} {f x : Int32} : ∀ {n : Nat}, (∀ i, i < n → an i = bn i) → alkS an f x n = alkS bn f x n
  | 0, _ => rfl
  | n + 1, h => by
    rw [alkS, alkS, alkS_congr (fun i hi => h i (by omega)), h n (by omega)]
theorem mosS_congr {an bn : Nat → Int32} {f : Int32} {N : Nat} (h : ∀ i, i < N → an i = bn i) : ∀ {n : Nat}, n ≤ N → mosS an f N n = mosS bn f N n
  | 0, _ => rfl
  | n + 1, hn => by
    rw [mosS, mosS, mosS_congr h (show n ≤ N by omega), h n (by omega), alkS_congr h]

set_option maxHeartbeats 4000000 in
set_option maxRecDepth 100000 in
theorem k_X3_tells {X : Cx} {l : Launch} {σ : Hp} {Q : Option Value → Hp → Prop} (hL : LVs X) (hw : CW σ) (hF : ¬ 0 ≤ (prS σ).1 → Q (some (.int (prS σ).1)) (tel1 σ)) (hO : 0 ≤ (prS σ).1 → Q (some (.int (prS σ).1)) (tel2 σ)) : Con X l yX3_tells cX3_tells 2 (some .int) 9 [.ref (adr X 0 0 0)] σ Q := by
  refine Con_of [some (.ref (adr X 0 0 0)), none] (by decide) rfl (Nat.le_of_ble_eq_true rfl) ?_
  have hL0 := hL
  obtain ⟨hv0, hvA, hv2, hv3⟩ := hL
  have hv1 := hvA 0 (by decide)
  have hvt := hvA 1 (by decide)
  refine T_aload_n dX3_tells_0 rfl rfl ?_
  refine T_g0 hv0 3 (by decide) fl_X3_29 rfl dX3_tells_1 ?_
  refine T_aload_n dX3_tells_4 rfl rfl ?_
  refine T_g0 hv0 1 (by decide) fl_X3_16 rfl dX3_tells_5 ?_
  refine T_vi (Rc_of (hv3 0 (by decide)) rfl rfl) (con_u2 (k_X2_tellInto hv3 hvt hw.2.2.2.1.1 hw.2.2.2.1.2)) ml_X3_66 im_yX2_tellInto se_RX2_yX2_tellInto ini_RX2 co_yX2_tellInto rfl de_X2_tellInto (by decide) (by decide) rfl (Nat.le_of_ble_eq_true rfl) dX3_tells_8 ?_
  refine T_istore1 dX3_tells_11 rfl (by decide) ?_
  refine T_iload_n dX3_tells_12 rfl rfl ?_
  refine T_if_ge 18 dX3_tells_13 (by decide) (fun h13 => ?_) (fun h13 => ?_)
  · refine T_aload_n dX3_tells_18 rfl rfl ?_
    refine T_g0 hv0 2 (by decide) fl_X3_22 rfl dX3_tells_19 ?_
    refine T_aload_n dX3_tells_22 rfl rfl ?_
    refine T_g0 hv0 0 (by decide) fl_X3_10 rfl dX3_tells_23 ?_
    refine T_vv (Rc_of (hv2 0 (by decide)) rfl rfl) (k_X0_remember hv2 hw.2.1.1 hw.2.1.2 hw.2.2.1.1 hw.2.2.1.2 hv1 (hvA _ (by have := hw.2.1.2; omega))) ml_X3_70 im_yX0_remember se_RX0_yX0_remember ini_RX0 co_yX0_remember rfl de_X0_remember (by decide) (by decide) rfl (Nat.le_of_ble_eq_true rfl) dX3_tells_26 ?_
    refine T_aload_n dX3_tells_29 rfl rfl ?_
    refine T_g0 hv0 0 (by decide) fl_X3_10 rfl dX3_tells_30 ?_
    refine T_aload_n dX3_tells_33 rfl rfl ?_
    refine T_g0 hv0 1 (by decide) fl_X3_16 rfl dX3_tells_34 ?_
    refine T_vv (Rc_of (hv1 0 (by decide)) rfl rfl) (k_takeU (show ¬ 1 = 0 by decide) hv1 hvt) ml_X3_74 im_yX1_takeFrom se_RX1_yX1_takeFrom ini_RX1 co_yX1_takeFrom rfl de_X1_takeFrom (by decide) (by decide) rfl (Nat.le_of_ble_eq_true rfl) dX3_tells_37 ?_
    rw [show remS (setR (setR σ 1 1 (plS (finS (σ 3 0) (tL σ)) 82 0 (newS (σ 1 1)) 0).2.2) 3 0 (tk (finS (σ 3 0) (tL σ)) (plS (finS (σ 3 0) (tL σ)) 82 0 (newS (σ 1 1)) 0).2.1)) (nX σ) (kN σ) 1 1 = (prS σ).2.2 from rem_11 _ _ _]
    refine T_aload_n dX3_tells_40 rfl rfl ?_
    refine T_g0 hv0 3 (by decide) fl_X3_29 rfl dX3_tells_41 ?_
    refine T_vi (Rc_of (hv3 0 (by decide)) rfl rfl) (con_un (setR_ne (by decide)) (k_X2_drop hv3)) ml_X3_62 im_yX2_drop se_RX2_yX2_drop ini_RX2 co_yX2_drop rfl de_X2_drop (by decide) (by decide) rfl (Nat.le_of_ble_eq_true rfl) dX3_tells_44 ?_
    refine T_pop dX3_tells_47 rfl ?_
    refine T_iload_n dX3_tells_48 rfl rfl ?_
    refine T_iret rfl dX3_tells_49 ?_
    exact hO h13
  · refine T_iload_n dX3_tells_16 rfl rfl ?_
    refine T_iret rfl dX3_tells_17 ?_
    exact hF h13
set_option maxHeartbeats 4000000 in
set_option maxRecDepth 100000 in
theorem k_X3_answerOf {X : Cx} {l : Launch} {σ : Hp} {g : Rg} {a : Nat → Int32} {c : Nat} {w : Int32} (hL : LVs X) (hw : CW σ) (hc : c < 4) : Con X l yX3_answerOf cX3_answerOf 3 (some .int) 3 [.ref (adr X 0 0 0), .int (nI c), .int w] (jk σ g a) (ExA (ansS (σ 1 0) c w) σ a) := by
  refine Con_of [some (.ref (adr X 0 0 0)), some (.int (nI c)), some (.int w)] (by decide) rfl (Nat.le_of_ble_eq_true rfl) ?_
  have hL0 := hL
  obtain ⟨hv0, hvA, hv2, hv3⟩ := hL
  have hv1 := hvA 0 (by decide)
  have hvt := hvA 1 (by decide)
  have hW := hw.1
  have hWc := hw.1.2.2.1
  have hWw := hw.1.2.2.2.2
  refine T_iload_n dX3_answerOf_0 rfl rfl ?_
  by_cases hk0 : w = nI 0
  · rw [hk0]
    refine T_tableIn (off := 27) 28 dX3_answerOf_1 (by decide) (by decide) rfl (by decide) ?_
    refine T_aload_n dX3_answerOf_28 rfl rfl ?_
    refine T_g0 hv0 0 (by decide) fl_X3_10 rfl dX3_answerOf_29 ?_
    refine T_iload_n dX3_answerOf_32 rfl rfl ?_
    refine T_vi (Rc_of (hv1 0 (by decide)) rfl rfl) (con_uj rfl (k_X1_sum hv1 hW (by omega))) ml_X3_204 im_yX1_sum se_RX1_yX1_sum ini_RX1 co_yX1_sum rfl de_X1_sum (by decide) (by decide) rfl (Nat.le_of_ble_eq_true rfl) dX3_answerOf_33 ?_
    refine T_iret rfl dX3_answerOf_36 ?_
    exact ⟨by rw [ansS, if_pos rfl]; rfl, g, rfl⟩
  by_cases hk1 : w = nI 1
  · rw [hk1]
    refine T_tableIn (off := 36) 37 dX3_answerOf_1 (by decide) (by decide) rfl (by decide) ?_
    refine T_aload_n dX3_answerOf_37 rfl rfl ?_
    refine T_g0 hv0 0 (by decide) fl_X3_10 rfl dX3_answerOf_38 ?_
    refine T_iload_n dX3_answerOf_41 rfl rfl ?_
    refine T_vi (Rc_of (hv1 0 (by decide)) rfl rfl) (con_uj rfl (k_X1_slow hv1 (by omega))) ml_X3_207 im_yX1_slow se_RX1_yX1_slow ini_RX1 co_yX1_slow rfl de_X1_slow (by decide) (by decide) rfl (Nat.le_of_ble_eq_true rfl) dX3_answerOf_42 ?_
    refine T_iret rfl dX3_answerOf_45 ?_
    exact ⟨by rw [ansS, if_neg (by decide), if_pos rfl]; rfl, g, rfl⟩
  by_cases hk2 : w = nI 2
  · rw [hk2]
    refine T_tableIn (off := 45) 46 dX3_answerOf_1 (by decide) (by decide) rfl (by decide) ?_
    refine T_aload_n dX3_answerOf_46 rfl rfl ?_
    refine T_g0 hv0 1 (by decide) fl_X3_16 rfl dX3_answerOf_47 ?_
    refine T_aload_n dX3_answerOf_50 rfl rfl ?_
    refine T_g0 hv0 0 (by decide) fl_X3_10 rfl dX3_answerOf_51 ?_
    refine T_vv (Rc_of (hvt 0 (by decide)) rfl rfl) (k_takeU (show ¬ 0 = 1 by decide) hvt hv1) ml_X3_74 im_yX1_takeFrom se_RX1_yX1_takeFrom ini_RX1 co_yX1_takeFrom rfl de_X1_takeFrom (by decide) (by decide) rfl (Nat.le_of_ble_eq_true rfl) dX3_answerOf_54 ?_
    rw [jk_1]
    refine T_aload_n dX3_answerOf_57 rfl rfl ?_
    refine T_g0 hv0 1 (by decide) fl_X3_16 rfl dX3_answerOf_58 ?_
    refine T_iload_n dX3_answerOf_61 rfl rfl ?_
    refine T_vi (Rc_of (hvt 0 (by decide)) rfl rfl) (con_un rfl (k_X1_read hvt hW (by omega))) ml_X3_108 im_yX1_read se_RX1_yX1_read ini_RX1 co_yX1_read rfl de_X1_read (by decide) (by decide) rfl (Nat.le_of_ble_eq_true rfl) dX3_answerOf_62 ?_
    rw [jk_1]
    refine T_iret rfl dX3_answerOf_65 ?_
    exact ⟨by rw [ansS, if_neg (by decide), if_neg (by decide), if_pos rfl]; rfl, _, rfl⟩
  have hko : ∀ k, k ≤ 2 → ¬ w = nI k := by
    intro k hk
    rcases (show k = 0 ∨ k = 1 ∨ k = 2 by omega) with rfl | rfl | rfl
    · exact hk0
    · exact hk1
    · exact hk2
  refine T_tableOut 66 dX3_answerOf_1 (tab_out (n := 2) (by decide) hko) (by decide) ?_
  refine T_bipush (v := -9) dX3_answerOf_66 (by decide) ?_
  refine T_iret rfl dX3_answerOf_68 ?_
  exact ⟨by rw [ansS, if_neg hk0, if_neg hk1, if_neg hk2], g, rfl⟩
set_option maxHeartbeats 4000000 in
set_option maxRecDepth 100000 in
theorem k_X3_fitsAllSeen {X : Cx} {l : Launch} {σ : Hp} {g : Rg} {a : Nat → Int32} {c : Nat} (hL : LVs X) (hw : CW σ) (hc : c < 4) : Con X l yX3_fitsAllSeen cX3_fitsAllSeen 3 (some .boolean) 4 [.ref (adr X 0 0 0), .int (nI c)] (jk σ g a) (ExA (@ite _ (fitS (σ 1 0) (σ 0 0 3) (σ 0 0 4) (sN σ) c) (Classical.propDecidable _) (nI 1) (nI 0)) σ a) := by
  refine Con_of [some (.ref (adr X 0 0 0)), some (.int (nI c)), none] (by decide) rfl (Nat.le_of_ble_eq_true rfl) ?_
  have hL0 := hL
  obtain ⟨hv0, hvA, hv2, hv3⟩ := hL
  have hv1 := hvA 0 (by decide)
  have hvt := hvA 1 (by decide)
  have hs := hw.2.2.2.2.1
  have hs6 := hw.2.2.2.2.2
  have hpos : (fitS (σ 1 0) (σ 0 0 3) (σ 0 0 4) (sN σ) c) → (@ite _ (fitS (σ 1 0) (σ 0 0 3) (σ 0 0 4) (sN σ) c) (Classical.propDecidable _) (nI 1) (nI 0)) = nI 1 := fun h => if_pos h
  have hneg : ¬ (fitS (σ 1 0) (σ 0 0 3) (σ 0 0 4) (sN σ) c) → (@ite _ (fitS (σ 1 0) (σ 0 0 3) (σ 0 0 4) (sN σ) c) (Classical.propDecidable _) (nI 1) (nI 0)) = nI 0 := fun h => if_neg h
  have hlp : ∀ (n k : Nat) (g : Rg), k + n = sN σ → (∀ i, i < k → ansS (σ 1 0) c (σ 0 0 3 i) = σ 0 0 4 i) → T X l yX3_fitsAllSeen cX3_fitsAllSeen 3 (some .boolean) 4 2 [some (.ref (adr X 0 0 0)), some (.int (nI c)), some (.int (nI k))] [] (jk σ g a) (ExA (@ite _ (fitS (σ 1 0) (σ 0 0 3) (σ 0 0 4) (sN σ) c) (Classical.propDecidable _) (nI 1) (nI 0)) σ a) := by
    intro n
    induction n with
    | zero =>
      intro k g hk hall
      have hk : k = sN σ := by omega
      subst hk
      refine T_iload_n dX3_fitsAllSeen_2 rfl rfl ?_
      refine T_aload_n dX3_fitsAllSeen_3 rfl rfl ?_
      refine T_g0 (v := .int (nI (sN σ))) hv0 8 (by decide) fl_X3_48 (congrArg (fun z => some (Value.int z)) hs) dX3_fitsAllSeen_4 ?_
      refine T_icmp_ge 38 dX3_fitsAllSeen_7 (by decide) (fun h7 => ?_) (fun h7 => (absurd (nI_le (Nat.le_refl _) (by omega)) h7))
      refine T_iconst (v := nI 1) dX3_fitsAllSeen_38 rfl ?_
      refine T_zret (ty := .boolean) rfl (by decide) dX3_fitsAllSeen_39 ?_
      exact ⟨by rw [hpos hall], g, rfl⟩
    | succ n ih =>
      intro k g hk hall
      have hk2 : k < sN σ := by omega
      refine T_iload_n dX3_fitsAllSeen_2 rfl rfl ?_
      refine T_aload_n dX3_fitsAllSeen_3 rfl rfl ?_
      refine T_g0 (v := .int (nI (sN σ))) hv0 8 (by decide) fl_X3_48 (congrArg (fun z => some (Value.int z)) hs) dX3_fitsAllSeen_4 ?_
      refine T_icmp_ge 38 dX3_fitsAllSeen_7 (by decide) (fun h7 => (absurd h7 (nI_ge hk2 (by omega)))) (fun h7 => ?_)
      refine T_aload_n dX3_fitsAllSeen_10 rfl rfl ?_
      refine T_iload_n dX3_fitsAllSeen_11 rfl rfl ?_
      refine T_aload_n dX3_fitsAllSeen_12 rfl rfl ?_
      refine T_g0 hv0 6 (by decide) fl_X3_41 rfl dX3_fitsAllSeen_13 ?_
      refine T_iload_n dX3_fitsAllSeen_16 rfl rfl ?_
      refine T_iald (g := σ 0 0 3) rfl (hv0 _ (by decide)) rfl (Nat.le_of_ble_eq_true rfl) k (by omega) rfl dX3_fitsAllSeen_17 ?_
      refine T_va (Rc_of (hv0 0 (by decide)) rfl rfl) (k_X3_answerOf hL0 hw hc) ml_X3_146 im_yX3_answerOf se_RX3_yX3_answerOf ini_RX3 co_yX3_answerOf rfl de_X3_answerOf (by decide) (by decide) rfl (Nat.le_of_ble_eq_true rfl) dX3_fitsAllSeen_18 (fun g => ?_)
      refine T_aload_n dX3_fitsAllSeen_21 rfl rfl ?_
      refine T_g0 hv0 7 (by decide) fl_X3_45 rfl dX3_fitsAllSeen_22 ?_
      refine T_iload_n dX3_fitsAllSeen_25 rfl rfl ?_
      refine T_iald (g := σ 0 0 4) rfl (hv0 _ (by decide)) rfl (Nat.le_of_ble_eq_true rfl) k (by omega) rfl dX3_fitsAllSeen_26 ?_
      refine T_icmp_eq 32 dX3_fitsAllSeen_27 (by decide) (fun h27 => ?_) (fun h27 => ?_)
      · first | refine T_iincN2 dX3_fitsAllSeen_32 rfl (by decide) ?_ | refine T_iinc2 dX3_fitsAllSeen_32 rfl rfl (by decide) ?_
        refine T_goto 2 dX3_fitsAllSeen_35 (by decide) ?_
        exact ih (k + 1) g (by omega) (fun i hi => by
          rcases (show i < k ∨ i = k by omega) with h | h
          · exact hall i h
          · rw [h]; exact h27)
      · refine T_iconst (v := nI 0) dX3_fitsAllSeen_30 rfl ?_
        refine T_zret (ty := .boolean) rfl (by decide) dX3_fitsAllSeen_31 ?_
        exact ⟨by rw [hneg (fun q => h27 (q k hk2))], g, rfl⟩
  refine T_iconst (v := nI 0) dX3_fitsAllSeen_0 rfl ?_
  refine T_istore2 dX3_fitsAllSeen_1 rfl (by decide) ?_
  exact hlp (sN σ) 0 g (by omega) (fun i hi => absurd hi (Nat.not_lt_zero i))
set_option maxHeartbeats 4000000 in
set_option maxRecDepth 100000 in
theorem k_X3_which {X : Cx} {l : Launch} {σ : Hp} {g : Rg} {a : Nat → Int32} (hL : LVs X) (hw : CW σ) : Con X l yX3_which cX3_which 3 (some .int) 5 [.ref (adr X 0 0 0)] (jk σ g a) (ExA (whiS (σ 1 0) (σ 0 0 3) (σ 0 0 4) (sN σ) (nC (σ 1 0))) σ a) := by
  refine Con_of [some (.ref (adr X 0 0 0)), none, none] (by decide) rfl (Nat.le_of_ble_eq_true rfl) ?_
  have hL0 := hL
  obtain ⟨hv0, hvA, hv2, hv3⟩ := hL
  have hv1 := hvA 0 (by decide)
  have hvt := hvA 1 (by decide)
  have hW := hw.1
  have hWc := hw.1.2.2.1
  have hWw := hw.1.2.2.2.2
  have hlp : ∀ (n k : Nat) (g : Rg), k + n = nC (σ 1 0) → T X l yX3_which cX3_which 3 (some .int) 5 4 [some (.ref (adr X 0 0 0)), some (.int (whiS (σ 1 0) (σ 0 0 3) (σ 0 0 4) (sN σ) k)), some (.int (nI k))] [] (jk σ g a) (ExA (whiS (σ 1 0) (σ 0 0 3) (σ 0 0 4) (sN σ) (nC (σ 1 0))) σ a) := by
    intro n
    induction n with
    | zero =>
      intro k g hk
      have hk : k = nC (σ 1 0) := by omega
      subst hk
      refine T_iload_n dX3_which_4 rfl rfl ?_
      refine T_aload_n dX3_which_5 rfl rfl ?_
      refine T_g0 hv0 0 (by decide) fl_X3_10 rfl dX3_which_6 ?_
      refine T_g1 (v := .int (nI (nC (σ 1 0)))) hv1 0 (by decide) fl_X3_183 (congrArg (fun z => some (Value.int z)) hW.1) dX3_which_9 ?_
      refine T_icmp_ge 35 dX3_which_12 (by decide) (fun h12 => ?_) (fun h12 => (absurd (nI_le (Nat.le_refl _) (by omega)) h12))
      refine T_iload_n dX3_which_35 rfl rfl ?_
      refine T_iret rfl dX3_which_36 ?_
      exact ⟨rfl, g, rfl⟩
    | succ n ih =>
      intro k g hk
      have hnx := fun g => ih (k + 1) g (by omega)
      have hk2 : k < nC (σ 1 0) := by omega
      rw [whiS] at hnx
      refine T_iload_n dX3_which_4 rfl rfl ?_
      refine T_aload_n dX3_which_5 rfl rfl ?_
      refine T_g0 hv0 0 (by decide) fl_X3_10 rfl dX3_which_6 ?_
      refine T_g1 (v := .int (nI (nC (σ 1 0)))) hv1 0 (by decide) fl_X3_183 (congrArg (fun z => some (Value.int z)) hW.1) dX3_which_9 ?_
      refine T_icmp_ge 35 dX3_which_12 (by decide) (fun h12 => (absurd h12 (nI_ge hk2 (by omega)))) (fun h12 => ?_)
      refine T_aload_n dX3_which_15 rfl rfl ?_
      refine T_iload_n dX3_which_16 rfl rfl ?_
      refine T_va (Rc_of (hv0 0 (by decide)) rfl rfl) (k_X3_fitsAllSeen hL0 hw (by omega)) ml_X3_186 im_yX3_fitsAllSeen se_RX3_yX3_fitsAllSeen ini_RX3 co_yX3_fitsAllSeen rfl de_X3_fitsAllSeen (by decide) (by decide) rfl (Nat.le_of_ble_eq_true rfl) dX3_which_17 (fun g => ?_)
      refine T_if_eq 29 dX3_which_20 (by decide) (fun h20 => ?_) (fun h20 => ?_)
      · first | refine T_iincN2 dX3_which_29 rfl (by decide) ?_ | refine T_iinc2 dX3_which_29 rfl rfl (by decide) ?_
        refine T_goto 4 dX3_which_32 (by decide) ?_
        first | (rw [if_pos (b01_1 h20)] at hnx; exact hnx g) | (rw [if_neg (b01_0 h20)] at hnx; exact hnx g)
      · refine T_iload_n dX3_which_23 rfl rfl ?_
        refine T_iconst (v := nI 1) dX3_which_24 rfl ?_
        refine T_iload_n dX3_which_25 rfl rfl ?_
        refine T_ishl dX3_which_26 ?_
        refine T_ior dX3_which_27 ?_
        refine T_istore1 dX3_which_28 rfl (by decide) ?_
        first | refine T_iincN2 dX3_which_29 rfl (by decide) ?_ | refine T_iinc2 dX3_which_29 rfl rfl (by decide) ?_
        refine T_goto 4 dX3_which_32 (by decide) ?_
        first | (rw [if_pos (b01_1 h20)] at hnx; exact hnx g) | (rw [if_neg (b01_0 h20)] at hnx; exact hnx g)
  refine T_iconst (v := nI 0) dX3_which_0 rfl ?_
  refine T_istore1 dX3_which_1 rfl (by decide) ?_
  refine T_iconst (v := nI 0) dX3_which_2 rfl ?_
  refine T_istore2 dX3_which_3 rfl (by decide) ?_
  exact hlp (nC (σ 1 0)) 0 g (by omega)
set_option maxHeartbeats 4000000 in
set_option maxRecDepth 100000 in
theorem k_X3_alikeWith {X : Cx} {l : Launch} {σ : Hp} {g : Rg} {a : Nat → Int32} {f x : Int32} (hL : LVs X) (hw : CW σ) : Con X l yX3_alikeWith cX3_alikeWith 5 (some .int) 1 [.ref (adr X 0 0 0), .int f, .int x] (jk σ g a) (Ex (some (.int (nI (alkS a f x (nC (σ 1 0)))))) (jk σ g a)) := by
  refine Con_of [some (.ref (adr X 0 0 0)), some (.int f), some (.int x), none, none] (by decide) rfl (Nat.le_of_ble_eq_true rfl) ?_
  have hL0 := hL
  obtain ⟨hv0, hvA, hv2, hv3⟩ := hL
  have hv1 := hvA 0 (by decide)
  have hvt := hvA 1 (by decide)
  have hW := hw.1
  have hWc := hw.1.2.2.1
  have hWw := hw.1.2.2.2.2
  have hlp : ∀ (n k : Nat), k + n = nC (σ 1 0) → T X l yX3_alikeWith cX3_alikeWith 5 (some .int) 1 5 [some (.ref (adr X 0 0 0)), some (.int f), some (.int x), some (.int (nI (alkS a f x k))), some (.int (nI k))] [] (jk σ g a) (Ex (some (.int (nI (alkS a f x (nC (σ 1 0)))))) (jk σ g a)) := by
    intro n
    induction n with
    | zero =>
      intro k hk
      have hk : k = nC (σ 1 0) := by omega
      subst hk
      refine T_iload dX3_alikeWith_5 rfl ?_
      refine T_aload_n dX3_alikeWith_7 rfl rfl ?_
      refine T_g0 hv0 0 (by decide) fl_X3_10 rfl dX3_alikeWith_8 ?_
      refine T_g1 (v := .int (nI (nC (σ 1 0)))) hv1 0 (by decide) fl_X3_183 (congrArg (fun z => some (Value.int z)) hW.1) dX3_alikeWith_11 ?_
      refine T_icmp_ge 46 dX3_alikeWith_14 (by decide) (fun h14 => ?_) (fun h14 => (absurd (nI_le (Nat.le_refl _) (by omega)) h14))
      refine T_iload_n dX3_alikeWith_46 rfl rfl ?_
      refine T_iret rfl dX3_alikeWith_47 ?_
      exact ⟨rfl, rfl⟩
    | succ n ih =>
      intro k hk
      have hnx := ih (k + 1) (by omega)
      have hk2 : k < nC (σ 1 0) := by omega
      rw [alkS] at hnx
      refine T_iload dX3_alikeWith_5 rfl ?_
      refine T_aload_n dX3_alikeWith_7 rfl rfl ?_
      refine T_g0 hv0 0 (by decide) fl_X3_10 rfl dX3_alikeWith_8 ?_
      refine T_g1 (v := .int (nI (nC (σ 1 0)))) hv1 0 (by decide) fl_X3_183 (congrArg (fun z => some (Value.int z)) hW.1) dX3_alikeWith_11 ?_
      refine T_icmp_ge 46 dX3_alikeWith_14 (by decide) (fun h14 => (absurd h14 (nI_ge hk2 (by omega)))) (fun h14 => ?_)
      refine T_iload_n dX3_alikeWith_17 rfl rfl ?_
      refine T_iload dX3_alikeWith_18 rfl ?_
      refine T_si k_X3_hasBit ml_X3_210 sm_yX3_hasBit ini_RX3 co_yX3_hasBit de_X3_hasBit (by decide) (by decide) rfl (Nat.le_of_ble_eq_true rfl) dX3_alikeWith_20 ?_
      refine T_if_eq 40 dX3_alikeWith_23 (by decide) (fun h23 => ?_) (fun h23 => ?_)
      · first | refine T_iincN4 dX3_alikeWith_40 rfl (by decide) ?_ | refine T_iinc4 dX3_alikeWith_40 rfl rfl (by decide) ?_
        refine T_goto 5 dX3_alikeWith_43 (by decide) ?_
        first | (rw [if_pos (b01_1 h23), if_pos h34] at hnx; exact hnx) | (rw [if_pos (b01_1 h23), if_neg h34] at hnx; exact hnx) | (rw [if_neg (b01_0 h23)] at hnx; exact hnx)
      · refine T_aload_n dX3_alikeWith_26 rfl rfl ?_
        refine T_g0 hv0 9 (by decide) fl_X3_52 rfl dX3_alikeWith_27 ?_
        refine T_iload dX3_alikeWith_30 rfl ?_
        refine T_iald (g := a) rfl (hv0 _ (by decide)) rfl (Nat.le_of_ble_eq_true rfl) k (by omega) rfl dX3_alikeWith_32 ?_
        refine T_iload_n dX3_alikeWith_33 rfl rfl ?_
        refine T_icmp_ne 40 dX3_alikeWith_34 (by decide) (fun h34 => ?_) (fun h34 => ?_)
        · first | refine T_iincN4 dX3_alikeWith_40 rfl (by decide) ?_ | refine T_iinc4 dX3_alikeWith_40 rfl rfl (by decide) ?_
          refine T_goto 5 dX3_alikeWith_43 (by decide) ?_
          first | (rw [if_pos (b01_1 h23), if_pos h34] at hnx; exact hnx) | (rw [if_pos (b01_1 h23), if_neg h34] at hnx; exact hnx) | (rw [if_neg (b01_0 h23)] at hnx; exact hnx)
        · first | refine T_iincN3 dX3_alikeWith_37 rfl (by decide) ?_ | refine T_iinc3 dX3_alikeWith_37 rfl rfl (by decide) ?_
          first | refine T_iincN4 dX3_alikeWith_40 rfl (by decide) ?_ | refine T_iinc4 dX3_alikeWith_40 rfl rfl (by decide) ?_
          refine T_goto 5 dX3_alikeWith_43 (by decide) ?_
          first | (rw [if_pos (b01_1 h23), if_pos h34] at hnx; exact hnx) | (rw [if_pos (b01_1 h23), if_neg h34] at hnx; exact hnx) | (rw [if_neg (b01_0 h23)] at hnx; exact hnx)
  refine T_iconst (v := nI 0) dX3_alikeWith_0 rfl ?_
  refine T_istore3 dX3_alikeWith_1 rfl (by decide) ?_
  refine T_iconst (v := nI 0) dX3_alikeWith_2 rfl ?_
  refine T_istore4 dX3_alikeWith_3 rfl (by decide) ?_
  exact hlp (nC (σ 1 0)) 0 (by omega)
set_option maxHeartbeats 4000000 in
set_option maxRecDepth 100000 in
theorem k_X3_mostAlike {X : Cx} {l : Launch} {σ : Hp} {g : Rg} {a : Nat → Int32} {f w : Int32} (hL : LVs X) (hw : CW σ) : Con X l yX3_mostAlike cX3_mostAlike 5 (some .int) 4 [.ref (adr X 0 0 0), .int f, .int w] (jk σ g a) (ExJ (mosS (fun i => ansS (σ 1 0) i w) f (nC (σ 1 0)) (nC (σ 1 0))) σ) := by
  refine Con_of [some (.ref (adr X 0 0 0)), some (.int f), some (.int w), none, none] (by decide) rfl (Nat.le_of_ble_eq_true rfl) ?_
  have hL0 := hL
  obtain ⟨hv0, hvA, hv2, hv3⟩ := hL
  have hv1 := hvA 0 (by decide)
  have hvt := hvA 1 (by decide)
  have hW := hw.1
  have hWc := hw.1.2.2.1
  have hWw := hw.1.2.2.2.2
  have hlp2 : ∀ (g : Rg) (a : Nat → Int32), (∀ i, i < (nC (σ 1 0)) → a i = ansS (σ 1 0) i w) → ∀ (n k : Nat), k + n = (nC (σ 1 0)) → T X l yX3_mostAlike cX3_mostAlike 5 (some .int) 4 36 [some (.ref (adr X 0 0 0)), some (.int f), some (.int w), some (.int (mosS a f (nC (σ 1 0)) k)), some (.int (nI k))] [] (jk σ g a) (ExJ (mosS (fun i => ansS (σ 1 0) i w) f (nC (σ 1 0)) (nC (σ 1 0))) σ) := by
    intro g a hall n
    induction n with
    | zero =>
      intro k hk
      have hk : k = (nC (σ 1 0)) := by omega
      subst hk
      refine T_iload dX3_mostAlike_36 rfl ?_
      refine T_aload_n dX3_mostAlike_38 rfl rfl ?_
      refine T_g0 hv0 0 (by decide) fl_X3_10 rfl dX3_mostAlike_39 ?_
      refine T_g1 (v := .int (nI (nC (σ 1 0)))) hv1 0 (by decide) fl_X3_183 (congrArg (fun z => some (Value.int z)) hW.1) dX3_mostAlike_42 ?_
      refine T_icmp_ge 80 dX3_mostAlike_45 (by decide) (fun h45 => ?_) (fun h45 => (absurd (nI_le (Nat.le_refl _) (by omega)) h45))
      refine T_iload_n dX3_mostAlike_80 rfl rfl ?_
      refine T_iret rfl dX3_mostAlike_81 ?_
      exact ⟨by rw [mosS_congr hall (Nat.le_refl _)], jk_JK σ g a⟩
    | succ n ih =>
      intro k hk
      have hnx := ih (k + 1) (by omega)
      have hk2 : k < (nC (σ 1 0)) := by omega
      rw [mosS] at hnx
      refine T_iload dX3_mostAlike_36 rfl ?_
      refine T_aload_n dX3_mostAlike_38 rfl rfl ?_
      refine T_g0 hv0 0 (by decide) fl_X3_10 rfl dX3_mostAlike_39 ?_
      refine T_g1 (v := .int (nI (nC (σ 1 0)))) hv1 0 (by decide) fl_X3_183 (congrArg (fun z => some (Value.int z)) hW.1) dX3_mostAlike_42 ?_
      refine T_icmp_ge 80 dX3_mostAlike_45 (by decide) (fun h45 => (absurd h45 (nI_ge hk2 (by omega)))) (fun h45 => ?_)
      refine T_iload_n dX3_mostAlike_48 rfl rfl ?_
      refine T_iload dX3_mostAlike_49 rfl ?_
      refine T_si k_X3_hasBit ml_X3_210 sm_yX3_hasBit ini_RX3 co_yX3_hasBit de_X3_hasBit (by decide) (by decide) rfl (Nat.le_of_ble_eq_true rfl) dX3_mostAlike_51 ?_
      refine T_if_eq 74 dX3_mostAlike_54 (by decide) (fun h54 => ?_) (fun h54 => ?_)
      · first | refine T_iincN4 dX3_mostAlike_74 rfl (by decide) ?_ | refine T_iinc4 dX3_mostAlike_74 rfl rfl (by decide) ?_
        refine T_goto 36 dX3_mostAlike_77 (by decide) ?_
        first | (rw [if_pos (b01_1 h54)] at hnx; exact hnx) | (rw [if_neg (b01_0 h54)] at hnx; exact hnx)
      · refine T_iload_n dX3_mostAlike_57 rfl rfl ?_
        refine T_aload_n dX3_mostAlike_58 rfl rfl ?_
        refine T_iload_n dX3_mostAlike_59 rfl rfl ?_
        refine T_aload_n dX3_mostAlike_60 rfl rfl ?_
        refine T_g0 hv0 9 (by decide) fl_X3_52 rfl dX3_mostAlike_61 ?_
        refine T_iload dX3_mostAlike_64 rfl ?_
        refine T_iald (g := a) rfl (hv0 _ (by decide)) rfl (Nat.le_of_ble_eq_true rfl) k (by omega) rfl dX3_mostAlike_66 ?_
        refine T_vi (Rc_of (hv0 0 (by decide)) rfl rfl) (k_X3_alikeWith hL0 hw) ml_X3_213 im_yX3_alikeWith se_RX3_yX3_alikeWith ini_RX3 co_yX3_alikeWith rfl de_X3_alikeWith (by decide) (by decide) rfl (Nat.le_of_ble_eq_true rfl) dX3_mostAlike_67 ?_
        refine T_max ml_X3_216 sm_Lib_Math_max_name ini__java_lang_Math_ co_Lib_Math_max_name (by decide) (Nat.le_of_ble_eq_true rfl) dX3_mostAlike_70 ?_
        refine T_istore3 dX3_mostAlike_73 rfl (by decide) ?_
        first | refine T_iincN4 dX3_mostAlike_74 rfl (by decide) ?_ | refine T_iinc4 dX3_mostAlike_74 rfl rfl (by decide) ?_
        refine T_goto 36 dX3_mostAlike_77 (by decide) ?_
        first | (rw [if_pos (b01_1 h54)] at hnx; exact hnx) | (rw [if_neg (b01_0 h54)] at hnx; exact hnx)
  have hlp : ∀ (n k : Nat) (g : Rg) (a : Nat → Int32), k + n = (nC (σ 1 0)) → (∀ i, i < k → a i = ansS (σ 1 0) i w) → T X l yX3_mostAlike cX3_mostAlike 5 (some .int) 4 2 [some (.ref (adr X 0 0 0)), some (.int f), some (.int w), some (.int (nI k)), none] [] (jk σ g a) (ExJ (mosS (fun i => ansS (σ 1 0) i w) f (nC (σ 1 0)) (nC (σ 1 0))) σ) := by
    intro n
    induction n with
    | zero =>
      intro k g a hk hall
      have hk : k = (nC (σ 1 0)) := by omega
      subst hk
      refine T_iload_n dX3_mostAlike_2 rfl rfl ?_
      refine T_aload_n dX3_mostAlike_3 rfl rfl ?_
      refine T_g0 hv0 0 (by decide) fl_X3_10 rfl dX3_mostAlike_4 ?_
      refine T_g1 (v := .int (nI (nC (σ 1 0)))) hv1 0 (by decide) fl_X3_183 (congrArg (fun z => some (Value.int z)) hW.1) dX3_mostAlike_7 ?_
      refine T_icmp_ge 31 dX3_mostAlike_10 (by decide) (fun h10 => ?_) (fun h10 => (absurd (nI_le (Nat.le_refl _) (by omega)) h10))
      refine T_iconst (v := nI 0) dX3_mostAlike_31 rfl ?_
      refine T_istore3 dX3_mostAlike_32 rfl (by decide) ?_
      refine T_iconst (v := nI 0) dX3_mostAlike_33 rfl ?_
      refine T_istore4 dX3_mostAlike_34 rfl (by decide) ?_
      exact hlp2 g a hall (nC (σ 1 0)) 0 (by omega)
    | succ n ih =>
      intro k g a hk hall
      have hk2 : k < (nC (σ 1 0)) := by omega
      refine T_iload_n dX3_mostAlike_2 rfl rfl ?_
      refine T_aload_n dX3_mostAlike_3 rfl rfl ?_
      refine T_g0 hv0 0 (by decide) fl_X3_10 rfl dX3_mostAlike_4 ?_
      refine T_g1 (v := .int (nI (nC (σ 1 0)))) hv1 0 (by decide) fl_X3_183 (congrArg (fun z => some (Value.int z)) hW.1) dX3_mostAlike_7 ?_
      refine T_icmp_ge 31 dX3_mostAlike_10 (by decide) (fun h10 => (absurd h10 (nI_ge hk2 (by omega)))) (fun h10 => ?_)
      refine T_aload_n dX3_mostAlike_13 rfl rfl ?_
      refine T_g0 hv0 9 (by decide) fl_X3_52 rfl dX3_mostAlike_14 ?_
      refine T_iload_n dX3_mostAlike_17 rfl rfl ?_
      refine T_aload_n dX3_mostAlike_18 rfl rfl ?_
      refine T_iload_n dX3_mostAlike_19 rfl rfl ?_
      refine T_iload_n dX3_mostAlike_20 rfl rfl ?_
      refine T_va (Rc_of (hv0 0 (by decide)) rfl rfl) (k_X3_answerOf hL0 hw (by omega)) ml_X3_146 im_yX3_answerOf se_RX3_yX3_answerOf ini_RX3 co_yX3_answerOf rfl de_X3_answerOf (by decide) (by decide) rfl (Nat.le_of_ble_eq_true rfl) dX3_mostAlike_21 (fun g => ?_)
      refine T_iast (h := jk σ g a 0 0) rfl (hv0 _ (by decide)) (fun _ => rfl) (Nat.le_of_ble_eq_true rfl) k (by omega) rfl (jk_0 σ g a k _) dX3_mostAlike_24 ?_
      first | refine T_iincN3 dX3_mostAlike_25 rfl (by decide) ?_ | refine T_iinc3 dX3_mostAlike_25 rfl rfl (by decide) ?_
      refine T_goto 2 dX3_mostAlike_28 (by decide) ?_
      exact ih (k + 1) g _ (by omega) (fun i hi => by
        unfold upd
        rcases (show i < k ∨ i = k by omega) with h | h
        · rw [if_neg (by omega)]; exact hall i h
        · rw [if_pos h, h])
  refine T_iconst (v := nI 0) dX3_mostAlike_0 rfl ?_
  refine T_istore3 dX3_mostAlike_1 rfl (by decide) ?_
  exact hlp (nC (σ 1 0)) 0 g a (by omega) (fun i hi => absurd hi (Nat.not_lt_zero i))
