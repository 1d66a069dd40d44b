section OUTJ
variable {X : Cx} {l : Launch} {y : MethodName} {cc : ByteArray} {nL : Nat} {ret : Option FieldType} {d pc : Nat} {ls : List (Option Value)} {st rest : List Value} {σ u : Hp} {Q : Option Value → Hp → Prop} {g : Rg} {a : Nat → Int32}
theorem T_toJ (k : ∀ (g : Rg) (a : Nat → Int32), T X l y cc nL ret d pc ls st (jk σ g a) Q) : T X l y cc nL ret d pc ls st σ Q := by
  have h := k (σ 1 1) (σ 0 0 5)
  rw [jk_rf] at h
  exact h
theorem con_ja {As : List Value} {x : Int32} (hc : Con X l y cc nL ret d As (jk σ (σ 1 1) (σ 0 0 5)) (ExA x σ (σ 0 0 5))) : Con X l y cc nL ret d As σ (ExA x σ (σ 0 0 5)) := by
  rw [jk_rf] at hc
  exact hc
theorem T_vk {C : String} {index d2 nL2 b : Nat} {y2 : MethodName} {cc2 : ByteArray} {ret2 : Option FieldType} {As : List Value} {x : Int32} (hrec : Rc X σ b C) (hC : Con X l y2 cc2 nL2 ret2 d2 (.ref b :: As) σ (ExA x σ a)) (h1 : Cond.methodLink y.cls index y2 ∈ tb) (h2 : Cond.instanceMethod y2 ∈ tb) (h3 : Cond.selects C y2 y2 ∈ tb) (h4 : Cond.initialized C ∈ tb) (h5 : Cond.code y2 cc2 nL2 ret2 ∈ tb) (hyC : y2.cls = C)
    (hde : y2.cls ≠ "java/lang/invoke/MethodHandle" ∧ y2.cls ≠ "java/lang/invoke/VarHandle" ∧ (parseMethodDescriptor y2.desc).map (fun d => d.parameters.length) = some As.length) (hd2 : d2 + 1 ≤ d) (hn2 : nL2 ≤ 17) (hst : st = As.reverse ++ .ref b :: rest) (hW : (rest.map fun v => v.category).sum ≤ 8) (hdg : decode cc pc = .ok (.invokevirtual index, 3))
    (k : ∀ u, JK σ u → T X l y cc nL ret d (pc + 3) ls (.int x :: rest) u Q) : T X l y cc nL ret d pc ls st σ Q :=
  T_callV hrec hC h1 h2 h3 h4 h5 hyC hde hd2 hn2 hst hW hdg (by rintro _ _ ⟨rfl, g, rfl⟩; exact k _ (jk_JK _ g a))
end OUTJ
noncomputable def fiS (σ : Hp) : Int32 := whiS (σ 1 0) (σ 0 0 3) (σ 0 0 4) (sN σ) (nC (σ 1 0))
noncomputable def maS (σ : Hp) (k : Nat) : Int32 := mosS (fun i => ansS (σ 1 0) i (nI k)) (fiS σ) (nC (σ 1 0)) (nC (σ 1 0))
noncomputable def askA (σ : Hp) : Int32 := if nI 1 < popS (fiS σ) then (askS (maS σ) 3).1 else -9
theorem vpb1 : vp_nar .boolean (nI 1) = nI 1 := by decide

set_option maxHeartbeats 4000000 in
set_option maxRecDepth 100000 in
theorem k_X3_ask {X : Cx} {l : Launch} {σ : Hp} (hL : LVs X) (hw : CW σ) : Con X l yX3_ask cX3_ask 6 (some .int) 6 [.ref (adr X 0 0 0)] σ (ExJ (askA σ) σ) := by
  refine Con_of [some (.ref (adr X 0 0 0)), none, none, none, none, none] (by decide) rfl (Nat.le_of_ble_eq_true rfl) ?_
  have hL0 := hL
  obtain ⟨hv0, hvA, hv2, hv3⟩ := hL
  have hv1 := hvA 0 (by decide)
  have hvt := hvA 1 (by decide)
  refine T_toJ (fun g a => ?_)
  have hlp : nI 1 < popS (fiS σ) → ∀ (n k : Nat) (g : Rg) (a : Nat → Int32) (v : Option Value), k + n = 3 → T X l yX3_ask cX3_ask 6 (some .int) 6 24 [some (.ref (adr X 0 0 0)), some (.int (fiS σ)), some (.int (askS (maS σ) k).1), some (.int (askS (maS σ) k).2), some (.int (nI k)), v] [] (jk σ g a) (ExJ (askA σ) σ) := by
    intro hb n
    induction n with
    | zero =>
      intro k g a v hk
      have hk : k = 3 := by omega
      subst hk
      refine T_iload dX3_ask_24 rfl ?_
      refine T_iconst (v := nI 3) dX3_ask_26 rfl ?_
      refine T_icmp_ge 57 dX3_ask_27 (by decide) (fun h27 => ?_) (fun h27 => (absurd (nI_le (Nat.le_refl _) (by omega)) h27))
      refine T_iload_n dX3_ask_57 rfl rfl ?_
      refine T_iret rfl dX3_ask_58 ?_
      exact ⟨by rw [askA, if_pos hb], jk_JK σ g a⟩
    | succ n ih =>
      intro k g a v hk
      have hnx := fun g a v => ih (k + 1) g a v (by omega)
      have hk2 : k < 3 := by omega
      rw [askS] at hnx
      refine T_iload dX3_ask_24 rfl ?_
      refine T_iconst (v := nI 3) dX3_ask_26 rfl ?_
      refine T_icmp_ge 57 dX3_ask_27 (by decide) (fun h27 => (absurd h27 (nI_ge hk2 (by omega)))) (fun h27 => ?_)
      refine T_aload_n dX3_ask_30 rfl rfl ?_
      refine T_iload_n dX3_ask_31 rfl rfl ?_
      refine T_iload dX3_ask_32 rfl ?_
      refine T_vj (Rc_of (hv0 0 (by decide)) rfl rfl) (k_X3_mostAlike (w := nI k) hL0 hw) ml_X3_192 im_yX3_mostAlike se_RX3_yX3_mostAlike ini_RX3 co_yX3_mostAlike rfl de_X3_mostAlike (by decide) (by decide) rfl (Nat.le_of_ble_eq_true rfl) dX3_ask_34 (fun g a => ?_)
      refine T_istore5 dX3_ask_37 rfl (by decide) ?_
      refine T_iload dX3_ask_39 rfl ?_
      refine T_iload_n dX3_ask_41 rfl rfl ?_
      refine T_icmp_ge 51 dX3_ask_42 (by decide) (fun h42 => ?_) (fun h42 => ?_)
      · first | refine T_iincN4 dX3_ask_51 rfl (by decide) ?_ | refine T_iinc4 dX3_ask_51 rfl rfl (by decide) ?_
        refine T_goto 24 dX3_ask_54 (by decide) ?_
        first | (exact hnx g a _) | (have h43 : ¬ maS σ k < (askS (maS σ) k).2 := Int32.not_lt.mpr h42; rw [if_neg h43] at hnx; exact hnx g a _)
      · have h42 : maS σ k < (askS (maS σ) k).2 := Int32.not_le.mp h42
        rw [if_pos h42] at hnx
        refine T_iload dX3_ask_45 rfl ?_
        refine T_istore3 dX3_ask_47 rfl (by decide) ?_
        refine T_iload dX3_ask_48 rfl ?_
        refine T_istore2 dX3_ask_50 rfl (by decide) ?_
        first | refine T_iincN4 dX3_ask_51 rfl (by decide) ?_ | refine T_iinc4 dX3_ask_51 rfl rfl (by decide) ?_
        refine T_goto 24 dX3_ask_54 (by decide) ?_
        first | (exact hnx g a _) | (have h43 : ¬ maS σ k < (askS (maS σ) k).2 := Int32.not_lt.mpr h42; rw [if_neg h43] at hnx; exact hnx g a _)
  refine T_aload_n dX3_ask_0 rfl rfl ?_
  refine T_va (Rc_of (hv0 0 (by decide)) rfl rfl) (k_X3_which hL0 hw) ml_X3_189 im_yX3_which se_RX3_yX3_which ini_RX3 co_yX3_which rfl de_X3_which (by decide) (by decide) rfl (Nat.le_of_ble_eq_true rfl) dX3_ask_1 (fun g => ?_)
  refine T_istore1 dX3_ask_4 rfl (by decide) ?_
  refine T_iload_n dX3_ask_5 rfl rfl ?_
  refine T_si k_J6_bitCount_0f7a4 ml_X3_98 sm_yJ6_bitCount_0f7a4 ini_RJ6 co_yJ6_bitCount_0f7a4 de_J6_bitCount_0f7a4 (by decide) (by decide) rfl (Nat.le_of_ble_eq_true rfl) dX3_ask_6 ?_
  refine T_iconst (v := nI 1) dX3_ask_9 rfl ?_
  refine T_icmp_gt 16 dX3_ask_10 (by decide) (fun h10 => ?_) (fun h10 => ?_)
  · refine T_bipush (v := -9) dX3_ask_16 (by decide) ?_
    refine T_istore2 dX3_ask_18 rfl (by decide) ?_
    refine T_iconst (v := nI 5) dX3_ask_19 rfl ?_
    refine T_istore3 dX3_ask_20 rfl (by decide) ?_
    refine T_iconst (v := nI 0) dX3_ask_21 rfl ?_
    refine T_istore4 dX3_ask_22 rfl (by decide) ?_
    exact hlp h10 3 0 g a none (by omega)
  · refine T_bipush (v := -9) dX3_ask_13 (by decide) ?_
    refine T_iret rfl dX3_ask_15 ?_
    have h10 : ¬ nI 1 < popS (fiS σ) := h10
    exact ⟨by rw [askA, if_neg h10], jk_JK σ g a⟩
set_option maxHeartbeats 4000000 in
set_option maxRecDepth 100000 in
theorem k_X3_copy {X : Cx} {l : Launch} {σ : Hp} {Q : Option Value → Hp → Prop} {c w : Int32} (hL : LVs X) (hw : CW σ) (hB : ¬ isCp (σ 1 0) c → Q (some (.int (-1))) σ) (hD : isCp (σ 1 0) c → (∀ k, k ≤ 9 → ¬ w = nI k) → Q (some (.int (-1))) σ) (hO : ∀ i k u, i < nC (σ 1 0) → c = nI i → k < 10 → w = nI k → JK σ u → Q (some (.int (cpS (σ 1 0) i k))) u) : Con X l yX3_copy cX3_copy 3 (some .int) 5 [.ref (adr X 0 0 0), .int c, .int w] σ Q := by
  refine Con_of [some (.ref (adr X 0 0 0)), some (.int c), some (.int w)] (by decide) rfl (Nat.le_of_ble_eq_true rfl) ?_
  have hL0 := hL
  obtain ⟨hv0, hvA, hv2, hv3⟩ := hL
  have hv1 := hvA 0 (by decide)
  have hvt := hvA 1 (by decide)
  have hW := hw.1
  have hWc := hw.1.2.2.1
  have hWw := hw.1.2.2.2.2
  refine T_aload_n dX3_copy_0 rfl rfl ?_
  refine T_iload_n dX3_copy_1 rfl rfl ?_
  refine T_vi (Rc_of (hv0 0 (by decide)) rfl rfl) (k_X3_isCopy hL0) ml_X3_77 im_yX3_isCopy se_RX3_yX3_isCopy ini_RX3 co_yX3_isCopy rfl de_X3_isCopy (by decide) (by decide) rfl (Nat.le_of_ble_eq_true rfl) dX3_copy_2 ?_
  refine T_if_ne 10 dX3_copy_5 (by decide) (fun h5 => ?_) (fun h5 => ?_)
  · obtain ⟨i, hi, hci⟩ := isCp_i hW (b01_1 h5)
    rw [hci]
    refine T_iload_n dX3_copy_10 rfl rfl ?_
    by_cases hk0 : w = nI 0
    · rw [hk0]
      refine T_tableIn (off := 53) 64 dX3_copy_11 (by decide) (by decide) rfl (by decide) ?_
      refine T_aload_n dX3_copy_64 rfl rfl ?_
      refine T_g0 hv0 0 (by decide) fl_X3_10 rfl dX3_copy_65 ?_
      refine T_g1 hv1 3 (by decide) fl_X3_134 rfl dX3_copy_68 ?_
      refine T_iload_n dX3_copy_71 rfl rfl ?_
      refine T_iald rfl (hv1 _ (by decide)) rfl (Nat.le_of_ble_eq_true rfl) _ (by omega) rfl dX3_copy_72 ?_
      refine T_iret rfl dX3_copy_73 ?_
      exact hO i 0 _ hi hci (by decide) hk0 (JK.rf σ)
    by_cases hk1 : w = nI 1
    · rw [hk1]
      refine T_tableIn (off := 63) 74 dX3_copy_11 (by decide) (by decide) rfl (by decide) ?_
      refine T_aload_n dX3_copy_74 rfl rfl ?_
      refine T_g0 hv0 0 (by decide) fl_X3_10 rfl dX3_copy_75 ?_
      refine T_g1 hv1 4 (by decide) fl_X3_137 rfl dX3_copy_78 ?_
      refine T_iload_n dX3_copy_81 rfl rfl ?_
      refine T_iald rfl (hv1 _ (by decide)) rfl (Nat.le_of_ble_eq_true rfl) _ (by omega) rfl dX3_copy_82 ?_
      refine T_iret rfl dX3_copy_83 ?_
      exact hO i 1 _ hi hci (by decide) hk1 (JK.rf σ)
    by_cases hk2 : w = nI 2
    · rw [hk2]
      refine T_tableIn (off := 73) 84 dX3_copy_11 (by decide) (by decide) rfl (by decide) ?_
      refine T_aload_n dX3_copy_84 rfl rfl ?_
      refine T_g0 hv0 0 (by decide) fl_X3_10 rfl dX3_copy_85 ?_
      refine T_g1 hv1 5 (by decide) fl_X3_140 rfl dX3_copy_88 ?_
      refine T_iload_n dX3_copy_91 rfl rfl ?_
      refine T_iald rfl (hv1 _ (by decide)) rfl (Nat.le_of_ble_eq_true rfl) _ (by omega) rfl dX3_copy_92 ?_
      refine T_iret rfl dX3_copy_93 ?_
      exact hO i 2 _ hi hci (by decide) hk2 (JK.rf σ)
    by_cases hk3 : w = nI 3
    · rw [hk3]
      refine T_tableIn (off := 83) 94 dX3_copy_11 (by decide) (by decide) rfl (by decide) ?_
      refine T_aload_n dX3_copy_94 rfl rfl ?_
      refine T_g0 hv0 0 (by decide) fl_X3_10 rfl dX3_copy_95 ?_
      refine T_g1 hv1 6 (by decide) fl_X3_95 rfl dX3_copy_98 ?_
      refine T_iload_n dX3_copy_101 rfl rfl ?_
      refine T_iald rfl (hv1 _ (by decide)) rfl (Nat.le_of_ble_eq_true rfl) _ (by omega) rfl dX3_copy_102 ?_
      refine T_iret rfl dX3_copy_103 ?_
      exact hO i 3 _ hi hci (by decide) hk3 (JK.rf σ)
    by_cases hk4 : w = nI 4
    · rw [hk4]
      refine T_tableIn (off := 93) 104 dX3_copy_11 (by decide) (by decide) rfl (by decide) ?_
      refine T_aload_n dX3_copy_104 rfl rfl ?_
      refine T_g0 hv0 0 (by decide) fl_X3_10 rfl dX3_copy_105 ?_
      refine T_g1 hv1 7 (by decide) fl_X3_143 rfl dX3_copy_108 ?_
      refine T_iload_n dX3_copy_111 rfl rfl ?_
      refine T_iald rfl (hv1 _ (by decide)) rfl (Nat.le_of_ble_eq_true rfl) _ (by omega) rfl dX3_copy_112 ?_
      refine T_iret rfl dX3_copy_113 ?_
      exact hO i 4 _ hi hci (by decide) hk4 (JK.rf σ)
    by_cases hk5 : w = nI 5
    · rw [hk5]
      refine T_tableIn (off := 103) 114 dX3_copy_11 (by decide) (by decide) rfl (by decide) ?_
      refine T_aload_n dX3_copy_114 rfl rfl ?_
      refine T_iload_n dX3_copy_115 rfl rfl ?_
      refine T_iconst (v := nI 0) dX3_copy_116 rfl ?_
      refine T_vk (Rc_of (hv0 0 (by decide)) rfl rfl) (con_ja (k_X3_answerOf (w := nI 0) hL0 hw (by omega))) ml_X3_146 im_yX3_answerOf se_RX3_yX3_answerOf ini_RX3 co_yX3_answerOf rfl de_X3_answerOf (by decide) (by decide) rfl (Nat.le_of_ble_eq_true rfl) dX3_copy_117 (fun u hu => ?_)
      refine T_iret rfl dX3_copy_120 ?_
      exact hO i 5 _ hi hci (by decide) hk5 hu
    by_cases hk6 : w = nI 6
    · rw [hk6]
      refine T_tableIn (off := 110) 121 dX3_copy_11 (by decide) (by decide) rfl (by decide) ?_
      refine T_aload_n dX3_copy_121 rfl rfl ?_
      refine T_g0 hv0 0 (by decide) fl_X3_10 rfl dX3_copy_122 ?_
      refine T_iload_n dX3_copy_125 rfl rfl ?_
      refine T_vi (Rc_of (hv1 0 (by decide)) rfl rfl) (con_uq rfl (k_X1_lack hv1 hW (by omega))) ml_X3_149 im_yX1_lack se_RX1_yX1_lack ini_RX1 co_yX1_lack rfl de_X1_lack (by decide) (by decide) rfl (Nat.le_of_ble_eq_true rfl) dX3_copy_126 ?_
      refine T_iret rfl dX3_copy_129 ?_
      exact hO i 6 _ hi hci (by decide) hk6 (JK.rf σ)
    by_cases hk7 : w = nI 7
    · rw [hk7]
      refine T_tableIn (off := 119) 130 dX3_copy_11 (by decide) (by decide) rfl (by decide) ?_
      refine T_aload_n dX3_copy_130 rfl rfl ?_
      refine T_iload_n dX3_copy_131 rfl rfl ?_
      refine T_iconst (v := nI 1) dX3_copy_132 rfl ?_
      refine T_vk (Rc_of (hv0 0 (by decide)) rfl rfl) (con_ja (k_X3_answerOf (w := nI 1) hL0 hw (by omega))) ml_X3_146 im_yX3_answerOf se_RX3_yX3_answerOf ini_RX3 co_yX3_answerOf rfl de_X3_answerOf (by decide) (by decide) rfl (Nat.le_of_ble_eq_true rfl) dX3_copy_133 (fun u hu => ?_)
      refine T_iret rfl dX3_copy_136 ?_
      exact hO i 7 _ hi hci (by decide) hk7 hu
    by_cases hk8 : w = nI 8
    · rw [hk8]
      refine T_tableIn (off := 126) 137 dX3_copy_11 (by decide) (by decide) rfl (by decide) ?_
      refine T_aload_n dX3_copy_137 rfl rfl ?_
      refine T_iload_n dX3_copy_138 rfl rfl ?_
      refine T_iconst (v := nI 2) dX3_copy_139 rfl ?_
      refine T_vk (Rc_of (hv0 0 (by decide)) rfl rfl) (con_ja (k_X3_answerOf (w := nI 2) hL0 hw (by omega))) ml_X3_146 im_yX3_answerOf se_RX3_yX3_answerOf ini_RX3 co_yX3_answerOf rfl de_X3_answerOf (by decide) (by decide) rfl (Nat.le_of_ble_eq_true rfl) dX3_copy_140 (fun u hu => ?_)
      refine T_iret rfl dX3_copy_143 ?_
      exact hO i 8 _ hi hci (by decide) hk8 hu
    by_cases hk9 : w = nI 9
    · rw [hk9]
      refine T_tableIn (off := 133) 144 dX3_copy_11 (by decide) (by decide) rfl (by decide) ?_
      refine T_aload_n dX3_copy_144 rfl rfl ?_
      refine T_g0 hv0 0 (by decide) fl_X3_10 rfl dX3_copy_145 ?_
      refine T_iload_n dX3_copy_148 rfl rfl ?_
      refine T_vi (Rc_of (hv1 0 (by decide)) rfl rfl) (con_uq rfl (k_X1_spare hv1 hW (by omega))) ml_X3_152 im_yX1_spare se_RX1_yX1_spare ini_RX1 co_yX1_spare rfl de_X1_spare (by decide) (by decide) rfl (Nat.le_of_ble_eq_true rfl) dX3_copy_149 ?_
      refine T_iret rfl dX3_copy_152 ?_
      exact hO i 9 _ hi hci (by decide) hk9 (JK.rf σ)
    have hko : ∀ k, k ≤ 9 → ¬ w = nI k := by
      intro k hk
      rcases (show k = 0 ∨ k = 1 ∨ k = 2 ∨ k = 3 ∨ k = 4 ∨ k = 5 ∨ k = 6 ∨ k = 7 ∨ k = 8 ∨ k = 9 by omega) with rfl | rfl | rfl | rfl | rfl | rfl | rfl | rfl | rfl | rfl
      · exact hk0
      · exact hk1
      · exact hk2
      · exact hk3
      · exact hk4
      · exact hk5
      · exact hk6
      · exact hk7
      · exact hk8
      · exact hk9
    refine T_tableOut 153 dX3_copy_11 (tab_out (n := 9) (by decide) hko) (by decide) ?_
    refine T_iconst (v := -1) dX3_copy_153 rfl ?_
    refine T_iret rfl dX3_copy_154 ?_
    exact hD (b01_1 h5) hko
  · refine T_iconst (v := -1) dX3_copy_8 rfl ?_
    refine T_iret rfl dX3_copy_9 ?_
    exact hB (b01_0 h5)
set_option maxHeartbeats 4000000 in
set_option maxRecDepth 100000 in
theorem k_X3_pair {X : Cx} {l : Launch} {σ : Hp} {Q : Option Value → Hp → Prop} {a c w : Int32} (hL : LVs X) (hw : CW σ) (hB : ¬ arP (σ 1 0) a c → Q (some (.int (-1))) σ) (hD : arP (σ 1 0) a c → (∀ k, k ≤ 3 → ¬ w = nI k) → Q (some (.int (-1))) σ) (hO : ∀ i j k, i < nC (σ 1 0) → j < nC (σ 1 0) → a = nI i → c = nI j → ¬ i = j → k < 4 → w = nI k → Q (some (.int (prsS (σ 1 0) i j k))) σ) : Con X l yX3_pair cX3_pair 4 (some .int) 4 [.ref (adr X 0 0 0), .int a, .int c, .int w] σ Q := by
  refine Con_of [some (.ref (adr X 0 0 0)), some (.int a), some (.int c), some (.int w)] (by decide) rfl (Nat.le_of_ble_eq_true rfl) ?_
  have hL0 := hL
  obtain ⟨hv0, hvA, hv2, hv3⟩ := hL
  have hv1 := hvA 0 (by decide)
  have hvt := hvA 1 (by decide)
  have hW := hw.1
  have hWc := hw.1.2.2.1
  have hWw := hw.1.2.2.2.2
  refine T_aload_n dX3_pair_0 rfl rfl ?_
  refine T_iload_n dX3_pair_1 rfl rfl ?_
  refine T_iload_n dX3_pair_2 rfl rfl ?_
  refine T_vi (Rc_of (hv0 0 (by decide)) rfl rfl) (k_X3_arePair hL0) ml_X3_91 im_yX3_arePair se_RX3_yX3_arePair ini_RX3 co_yX3_arePair rfl de_X3_arePair (by decide) (by decide) rfl (Nat.le_of_ble_eq_true rfl) dX3_pair_3 ?_
  refine T_if_ne 11 dX3_pair_6 (by decide) (fun h6 => ?_) (fun h6 => ?_)
  · have hp := b01_1 h6
    obtain ⟨i, hi, hai⟩ := isCp_i hW hp.1
    obtain ⟨j, hj, hcj⟩ := isCp_i hW hp.2.1
    have hij : ¬ i = j := fun e => hp.2.2 (by rw [hai, hcj, e])
    rw [hai, hcj]
    refine T_iload_n dX3_pair_11 rfl rfl ?_
    by_cases hk0 : w = nI 0
    · rw [hk0]
      refine T_tableIn (off := 32) 44 dX3_pair_12 (by decide) (by decide) rfl (by decide) ?_
      refine T_aload_n dX3_pair_44 rfl rfl ?_
      refine T_g0 hv0 0 (by decide) fl_X3_10 rfl dX3_pair_45 ?_
      refine T_g1 hv1 8 (by decide) fl_X3_155 rfl dX3_pair_48 ?_
      refine T_iload_n dX3_pair_51 rfl rfl ?_
      refine T_iload_n dX3_pair_52 rfl rfl ?_
      refine T_si k_X3_slot ml_X3_158 sm_yX3_slot ini_RX3 co_yX3_slot de_X3_slot (by decide) (by decide) rfl (Nat.le_of_ble_eq_true rfl) dX3_pair_53 ?_
      refine T_iald rfl (hv1 _ (by decide)) rfl (Nat.le_of_ble_eq_true rfl) _ (by omega) rfl dX3_pair_56 ?_
      refine T_iret rfl dX3_pair_57 ?_
      exact hO i j 0 hi hj hai hcj hij (by decide) hk0
    by_cases hk1 : w = nI 1
    · rw [hk1]
      refine T_tableIn (off := 46) 58 dX3_pair_12 (by decide) (by decide) rfl (by decide) ?_
      refine T_aload_n dX3_pair_58 rfl rfl ?_
      refine T_g0 hv0 0 (by decide) fl_X3_10 rfl dX3_pair_59 ?_
      refine T_g1 hv1 9 (by decide) fl_X3_161 rfl dX3_pair_62 ?_
      refine T_iload_n dX3_pair_65 rfl rfl ?_
      refine T_iload_n dX3_pair_66 rfl rfl ?_
      refine T_si k_X3_slot ml_X3_158 sm_yX3_slot ini_RX3 co_yX3_slot de_X3_slot (by decide) (by decide) rfl (Nat.le_of_ble_eq_true rfl) dX3_pair_67 ?_
      refine T_iald rfl (hv1 _ (by decide)) rfl (Nat.le_of_ble_eq_true rfl) _ (by omega) rfl dX3_pair_70 ?_
      refine T_iret rfl dX3_pair_71 ?_
      exact hO i j 1 hi hj hai hcj hij (by decide) hk1
    by_cases hk2 : w = nI 2
    · rw [hk2]
      refine T_tableIn (off := 60) 72 dX3_pair_12 (by decide) (by decide) rfl (by decide) ?_
      refine T_aload_n dX3_pair_72 rfl rfl ?_
      refine T_g0 hv0 0 (by decide) fl_X3_10 rfl dX3_pair_73 ?_
      refine T_iload_n dX3_pair_76 rfl rfl ?_
      refine T_iload_n dX3_pair_77 rfl rfl ?_
      refine T_vi (Rc_of (hv1 0 (by decide)) rfl rfl) (con_uq rfl (k_X1_owed hv1 hW (by omega) (by omega))) ml_X3_164 im_yX1_owed se_RX1_yX1_owed ini_RX1 co_yX1_owed rfl de_X1_owed (by decide) (by decide) rfl (Nat.le_of_ble_eq_true rfl) dX3_pair_78 ?_
      refine T_iret rfl dX3_pair_81 ?_
      exact hO i j 2 hi hj hai hcj hij (by decide) hk2
    by_cases hk3 : w = nI 3
    · rw [hk3]
      refine T_tableIn (off := 70) 82 dX3_pair_12 (by decide) (by decide) rfl (by decide) ?_
      refine T_aload_n dX3_pair_82 rfl rfl ?_
      refine T_g0 hv0 0 (by decide) fl_X3_10 rfl dX3_pair_83 ?_
      refine T_iload_n dX3_pair_86 rfl rfl ?_
      refine T_iload_n dX3_pair_87 rfl rfl ?_
      refine T_vi (Rc_of (hv1 0 (by decide)) rfl rfl) (con_uq rfl (k_X1_left hv1 hW (by omega) (by omega))) ml_X3_111 im_yX1_left se_RX1_yX1_left ini_RX1 co_yX1_left rfl de_X1_left (by decide) (by decide) rfl (Nat.le_of_ble_eq_true rfl) dX3_pair_88 ?_
      refine T_iret rfl dX3_pair_91 ?_
      exact hO i j 3 hi hj hai hcj hij (by decide) hk3
    have hko : ∀ k, k ≤ 3 → ¬ w = nI k := by
      intro k hk
      rcases (show k = 0 ∨ k = 1 ∨ k = 2 ∨ k = 3 by omega) with rfl | rfl | rfl | rfl
      · exact hk0
      · exact hk1
      · exact hk2
      · exact hk3
    refine T_tableOut 92 dX3_pair_12 (tab_out (n := 3) (by decide) hko) (by decide) ?_
    refine T_iconst (v := -1) dX3_pair_92 rfl ?_
    refine T_iret rfl dX3_pair_93 ?_
    exact hD (b01_1 h6) hko
  · refine T_iconst (v := -1) dX3_pair_9 rfl ?_
    refine T_iret rfl dX3_pair_10 ?_
    exact hB (b01_0 h6)
set_option maxHeartbeats 4000000 in
set_option maxRecDepth 100000 in
theorem k_X3_write {X : Cx} {l : Launch} {σ : Hp} {Q : Option Value → Hp → Prop} {v w : Int32} (hL : LVs X) (hw : CW σ) (hB : (∀ i, i < nW (σ 1 0) → ¬ v = nI i) → Q (some (.int (-1))) σ) (hD : ∀ i, i < nW (σ 1 0) → v = nI i → (∀ k, k ≤ 4 → ¬ w = nI k) → Q (some (.int (-1))) σ) (hO : ∀ i k, i < nW (σ 1 0) → v = nI i → k < 5 → w = nI k → Q (some (.int (wrS (σ 1 0) i k))) σ) : Con X l yX3_write cX3_write 3 (some .int) 1 [.ref (adr X 0 0 0), .int v, .int w] σ Q := by
  refine Con_of [some (.ref (adr X 0 0 0)), some (.int v), some (.int w)] (by decide) rfl (Nat.le_of_ble_eq_true rfl) ?_
  have hL0 := hL
  obtain ⟨hv0, hvA, hv2, hv3⟩ := hL
  have hv1 := hvA 0 (by decide)
  have hvt := hvA 1 (by decide)
  have hW := hw.1
  have hWc := hw.1.2.2.1
  have hWw := hw.1.2.2.2.2
  refine T_iload_n dX3_write_0 rfl rfl ?_
  refine T_if_lt 15 dX3_write_1 (by decide) (fun h1 => ?_) (fun h1 => ?_)
  · refine T_iconst (v := -1) dX3_write_15 rfl ?_
    refine T_iret rfl dX3_write_16 ?_
    refine hB (fun i hi e => ?_)
    first | exact absurd h1 (e ▸ nI_pos (by omega)) | exact h12 (by rw [e, hW.2.2.2.1]; exact nI_lt hi (by omega))
  · refine T_iload_n dX3_write_4 rfl rfl ?_
    refine T_aload_n dX3_write_5 rfl rfl ?_
    refine T_g0 hv0 0 (by decide) fl_X3_10 rfl dX3_write_6 ?_
    refine T_g1 hv1 2 (by decide) fl_X3_81 rfl dX3_write_9 ?_
    refine T_icmp_lt 17 dX3_write_12 (by decide) (fun h12 => ?_) (fun h12 => ?_)
    · obtain ⟨i, hi31, hci⟩ := nI_of h1
      have hi : i < nW (σ 1 0) := Classical.byContradiction fun z => absurd (show nI i < nI (nW (σ 1 0)) by rw [← hci, ← hW.2.2.2.1]; exact h12) (nI_nlt (by omega) (by omega))
      rw [hci]
      refine T_iload_n dX3_write_17 rfl rfl ?_
      by_cases hk0 : w = nI 0
      · rw [hk0]
        refine T_tableIn (off := 34) 52 dX3_write_18 (by decide) (by decide) rfl (by decide) ?_
        refine T_aload_n dX3_write_52 rfl rfl ?_
        refine T_g0 hv0 0 (by decide) fl_X3_10 rfl dX3_write_53 ?_
        refine T_g1 hv1 10 (by decide) fl_X3_167 rfl dX3_write_56 ?_
        refine T_iload_n dX3_write_59 rfl rfl ?_
        refine T_iald rfl (hv1 _ (by decide)) rfl (Nat.le_of_ble_eq_true rfl) _ (by omega) rfl dX3_write_60 ?_
        refine T_iret rfl dX3_write_61 ?_
        exact hO i 0 hi hci (by decide) hk0
      by_cases hk1 : w = nI 1
      · rw [hk1]
        refine T_tableIn (off := 44) 62 dX3_write_18 (by decide) (by decide) rfl (by decide) ?_
        refine T_aload_n dX3_write_62 rfl rfl ?_
        refine T_g0 hv0 0 (by decide) fl_X3_10 rfl dX3_write_63 ?_
        refine T_g1 hv1 12 (by decide) fl_X3_170 rfl dX3_write_66 ?_
        refine T_iload_n dX3_write_69 rfl rfl ?_
        refine T_iald rfl (hv1 _ (by decide)) rfl (Nat.le_of_ble_eq_true rfl) _ (by omega) rfl dX3_write_70 ?_
        refine T_iret rfl dX3_write_71 ?_
        exact hO i 1 hi hci (by decide) hk1
      by_cases hk2 : w = nI 2
      · rw [hk2]
        refine T_tableIn (off := 54) 72 dX3_write_18 (by decide) (by decide) rfl (by decide) ?_
        refine T_aload_n dX3_write_72 rfl rfl ?_
        refine T_g0 hv0 0 (by decide) fl_X3_10 rfl dX3_write_73 ?_
        refine T_g1 hv1 11 (by decide) fl_X3_173 rfl dX3_write_76 ?_
        refine T_iload_n dX3_write_79 rfl rfl ?_
        refine T_iald rfl (hv1 _ (by decide)) rfl (Nat.le_of_ble_eq_true rfl) _ (by omega) rfl dX3_write_80 ?_
        refine T_iret rfl dX3_write_81 ?_
        exact hO i 2 hi hci (by decide) hk2
      by_cases hk3 : w = nI 3
      · rw [hk3]
        refine T_tableIn (off := 64) 82 dX3_write_18 (by decide) (by decide) rfl (by decide) ?_
        refine T_aload_n dX3_write_82 rfl rfl ?_
        refine T_g0 hv0 0 (by decide) fl_X3_10 rfl dX3_write_83 ?_
        refine T_aload_n dX3_write_86 rfl rfl ?_
        refine T_g0 hv0 0 (by decide) fl_X3_10 rfl dX3_write_87 ?_
        refine T_g1 hv1 6 (by decide) fl_X3_95 rfl dX3_write_90 ?_
        refine T_iconst (v := nI 1) dX3_write_93 rfl ?_
        refine T_iload_n dX3_write_94 rfl rfl ?_
        refine T_ishl dX3_write_95 ?_
        refine T_vi (Rc_of (hv1 0 (by decide)) rfl rfl) (con_uq rfl (k_X1_copiesWith4 hv1 hW)) ml_X3_176 im_yX1_copiesWith se_RX1_yX1_copiesWith ini_RX1 co_yX1_copiesWith rfl de_X1_copiesWith (by decide) (by decide) rfl (Nat.le_of_ble_eq_true rfl) dX3_write_96 ?_
        refine T_iret rfl dX3_write_99 ?_
        exact hO i 3 hi hci (by decide) hk3
      by_cases hk4 : w = nI 4
      · rw [hk4]
        refine T_tableIn (off := 82) 100 dX3_write_18 (by decide) (by decide) rfl (by decide) ?_
        refine T_aload_n dX3_write_100 rfl rfl ?_
        refine T_g0 hv0 0 (by decide) fl_X3_10 rfl dX3_write_101 ?_
        refine T_aload_n dX3_write_104 rfl rfl ?_
        refine T_g0 hv0 0 (by decide) fl_X3_10 rfl dX3_write_105 ?_
        refine T_g1 hv1 7 (by decide) fl_X3_143 rfl dX3_write_108 ?_
        refine T_iconst (v := nI 1) dX3_write_111 rfl ?_
        refine T_iload_n dX3_write_112 rfl rfl ?_
        refine T_ishl dX3_write_113 ?_
        refine T_vi (Rc_of (hv1 0 (by decide)) rfl rfl) (con_uq rfl (k_X1_copiesWith5 hv1 hW)) ml_X3_176 im_yX1_copiesWith se_RX1_yX1_copiesWith ini_RX1 co_yX1_copiesWith rfl de_X1_copiesWith (by decide) (by decide) rfl (Nat.le_of_ble_eq_true rfl) dX3_write_114 ?_
        refine T_iret rfl dX3_write_117 ?_
        exact hO i 4 hi hci (by decide) hk4
      have hko : ∀ k, k ≤ 4 → ¬ w = nI k := by
        intro k hk
        rcases (show k = 0 ∨ k = 1 ∨ k = 2 ∨ k = 3 ∨ k = 4 by omega) with rfl | rfl | rfl | rfl | rfl
        · exact hk0
        · exact hk1
        · exact hk2
        · exact hk3
        · exact hk4
      refine T_tableOut 118 dX3_write_18 (tab_out (n := 4) (by decide) hko) (by decide) ?_
      refine T_iconst (v := -1) dX3_write_118 rfl ?_
      refine T_iret rfl dX3_write_119 ?_
      exact hD i hi hci hko
    · refine T_iconst (v := -1) dX3_write_15 rfl ?_
      refine T_iret rfl dX3_write_16 ?_
      refine hB (fun i hi e => ?_)
      first | exact absurd h1 (e ▸ nI_pos (by omega)) | exact h12 (by rw [e, hW.2.2.2.1]; exact nI_lt hi (by omega))
set_option maxHeartbeats 4000000 in
set_option maxRecDepth 100000 in
theorem k_X3_costs {X : Cx} {l : Launch} {σ : Hp} {Q : Option Value → Hp → Prop} {c w : Int32} (hL : LVs X) (hw : CW σ) (hB : ¬ (isCp (σ 1 0) c ∧ ¬ w < nI 1 ∧ w ≤ nI 999) → Q (some (.int (-1))) σ) (hO : ∀ i, i < nC (σ 1 0) → c = nI i → ¬ w < nI 1 → w ≤ nI 999 → Q (some (.int (nI (pforS (σ 1 0) i w (nC (σ 1 0)))))) σ) : Con X l yX3_costs cX3_costs 3 (some .int) 5 [.ref (adr X 0 0 0), .int c, .int w] σ Q := by
  refine Con_of [some (.ref (adr X 0 0 0)), some (.int c), some (.int w)] (by decide) rfl (Nat.le_of_ble_eq_true rfl) ?_
  have hL0 := hL
  obtain ⟨hv0, hvA, hv2, hv3⟩ := hL
  have hv1 := hvA 0 (by decide)
  have hvt := hvA 1 (by decide)
  have hW := hw.1
  have hWc := hw.1.2.2.1
  have hWw := hw.1.2.2.2.2
  refine T_aload_n dX3_costs_0 rfl rfl ?_
  refine T_iload_n dX3_costs_1 rfl rfl ?_
  refine T_vi (Rc_of (hv0 0 (by decide)) rfl rfl) (k_X3_isCopy hL0) ml_X3_77 im_yX3_isCopy se_RX3_yX3_isCopy ini_RX3 co_yX3_isCopy rfl de_X3_isCopy (by decide) (by decide) rfl (Nat.le_of_ble_eq_true rfl) dX3_costs_2 ?_
  refine T_if_eq 20 dX3_costs_5 (by decide) (fun h5 => ?_) (fun h5 => ?_)
  · refine T_iconst (v := -1) dX3_costs_20 rfl ?_
    refine T_iret rfl dX3_costs_21 ?_
    refine hB (fun q => ?_)
    first | exact (b01_0 h5) q.1 | exact q.2.1 h10 | exact h17 q.2.2
  · refine T_iload_n dX3_costs_8 rfl rfl ?_
    refine T_iconst (v := nI 1) dX3_costs_9 rfl ?_
    refine T_icmp_lt 20 dX3_costs_10 (by decide) (fun h10 => ?_) (fun h10 => ?_)
    · refine T_iconst (v := -1) dX3_costs_20 rfl ?_
      refine T_iret rfl dX3_costs_21 ?_
      refine hB (fun q => ?_)
      first | exact (b01_0 h5) q.1 | exact q.2.1 h10 | exact h17 q.2.2
    · refine T_iload_n dX3_costs_13 rfl rfl ?_
      refine T_sipush (v := nI 999) dX3_costs_14 (by decide) ?_
      refine T_icmp_le 22 dX3_costs_17 (by decide) (fun h17 => ?_) (fun h17 => ?_)
      · obtain ⟨i, hi, hci⟩ := isCp_i hW (b01_1 h5)
        rw [hci]
        refine T_aload_n dX3_costs_22 rfl rfl ?_
        refine T_g0 hv0 0 (by decide) fl_X3_10 rfl dX3_costs_23 ?_
        refine T_iload_n dX3_costs_26 rfl rfl ?_
        refine T_iload_n dX3_costs_27 rfl rfl ?_
        refine T_vi (Rc_of (hv1 0 (by decide)) rfl rfl) (con_uq rfl (k_X1_pushesFor hv1 hW (by omega))) ml_X3_180 im_yX1_pushesFor se_RX1_yX1_pushesFor ini_RX1 co_yX1_pushesFor rfl de_X1_pushesFor (by decide) (by decide) rfl (Nat.le_of_ble_eq_true rfl) dX3_costs_28 ?_
        refine T_iret rfl dX3_costs_31 ?_
        exact hO i hi hci h10 h17
      · refine T_iconst (v := -1) dX3_costs_20 rfl ?_
        refine T_iret rfl dX3_costs_21 ?_
        refine hB (fun q => ?_)
        first | exact (b01_0 h5) q.1 | exact q.2.1 h10 | exact h17 q.2.2
set_option maxHeartbeats 4000000 in
set_option maxRecDepth 100000 in
theorem k_sees0 {X : Cx} {l : Launch} {σ0 : Hp} {h : Rg} {Q : Option Value → Hp → Prop} {s : Nat} {v n : Int32} (hv0 : Lv X 0 0) (hs : h 0 8 = nI s) (hs6 : s ≤ 6) (hB : ¬ (¬ v < 0 ∧ ¬ nI 3 ≤ v ∧ ¬ n < 0 ∧ n ≤ nI 999) → Q (some (.int (-1))) (setR σ0 0 0 h)) (hF : (¬ v < 0 ∧ ¬ nI 3 ≤ v ∧ ¬ n < 0 ∧ n ≤ nI 999) → ¬ s < 6 → Q (some (.int (-3))) (setR σ0 0 0 h)) (hO : (¬ v < 0 ∧ ¬ nI 3 ≤ v ∧ ¬ n < 0 ∧ n ≤ nI 999) → s < 6 → Q (some (.int (nI (s + 1)))) (setR σ0 0 0 (up2 (up2 (up2 h 3 s v) 4 s n) 0 8 (nI (s + 1))))) : Con X l yX3_sees cX3_sees 3 (some .int) 0 [.ref (adr X 0 0 0), .int v, .int n] (setR σ0 0 0 h) Q := by
  refine Con_of [some (.ref (adr X 0 0 0)), some (.int v), some (.int n)] (by decide) rfl (Nat.le_of_ble_eq_true rfl) ?_
  refine T_iload_n dX3_sees_0 rfl rfl ?_
  refine T_if_lt 20 dX3_sees_1 (by decide) (fun h1 => ?_) (fun h1 => ?_)
  · refine T_iconst (v := -1) dX3_sees_20 rfl ?_
    refine T_iret rfl dX3_sees_21 ?_
    refine hB (fun q => ?_)
    first | exact q.1 h1 | exact q.2.1 h6 | exact q.2.2.1 h10 | exact h17 q.2.2.2
  · refine T_iload_n dX3_sees_4 rfl rfl ?_
    refine T_iconst (v := nI 3) dX3_sees_5 rfl ?_
    refine T_icmp_ge 20 dX3_sees_6 (by decide) (fun h6 => ?_) (fun h6 => ?_)
    · refine T_iconst (v := -1) dX3_sees_20 rfl ?_
      refine T_iret rfl dX3_sees_21 ?_
      refine hB (fun q => ?_)
      first | exact q.1 h1 | exact q.2.1 h6 | exact q.2.2.1 h10 | exact h17 q.2.2.2
    · refine T_iload_n dX3_sees_9 rfl rfl ?_
      refine T_if_lt 20 dX3_sees_10 (by decide) (fun h10 => ?_) (fun h10 => ?_)
      · refine T_iconst (v := -1) dX3_sees_20 rfl ?_
        refine T_iret rfl dX3_sees_21 ?_
        refine hB (fun q => ?_)
        first | exact q.1 h1 | exact q.2.1 h6 | exact q.2.2.1 h10 | exact h17 q.2.2.2
      · refine T_iload_n dX3_sees_13 rfl rfl ?_
        refine T_sipush (v := nI 999) dX3_sees_14 (by decide) ?_
        refine T_icmp_le 22 dX3_sees_17 (by decide) (fun h17 => ?_) (fun h17 => ?_)
        · refine T_aload_n dX3_sees_22 rfl rfl ?_
          refine T_g0F hv0 8 (by decide) fl_X3_48 rfl dX3_sees_23 ?_
          refine T_bipush (v := nI 6) dX3_sees_26 (by decide) ?_
          refine T_icmp_lt 34 dX3_sees_28 (by decide) (fun h28 => ?_) (fun h28 => ?_)
          · have hlt : s < 6 := Classical.byContradiction fun z => absurd (hs ▸ h28) (nI_nlt (by omega) (by omega))
            refine T_aload_n dX3_sees_34 rfl rfl ?_
            refine T_g0F hv0 6 (by decide) fl_X3_41 rfl dX3_sees_35 ?_
            refine T_aload_n dX3_sees_38 rfl rfl ?_
            refine T_g0F hv0 8 (by decide) fl_X3_48 rfl dX3_sees_39 ?_
            refine T_iload_n dX3_sees_42 rfl rfl ?_
            refine T_iastF (hv0 _ (by decide)) (fun _ => rfl) (Nat.le_of_ble_eq_true rfl) (s) (by omega) (hs) dX3_sees_43 ?_
            refine T_aload_n dX3_sees_44 rfl rfl ?_
            refine T_g0F hv0 7 (by decide) fl_X3_45 rfl dX3_sees_45 ?_
            refine T_aload_n dX3_sees_48 rfl rfl ?_
            refine T_g0F hv0 8 (by decide) fl_X3_48 rfl dX3_sees_49 ?_
            refine T_iload_n dX3_sees_52 rfl rfl ?_
            refine T_iastF (hv0 _ (by decide)) (fun _ => rfl) (Nat.le_of_ble_eq_true rfl) (s) (by omega) (hs) dX3_sees_53 ?_
            refine T_aload_n dX3_sees_54 rfl rfl ?_
            refine T_dup dX3_sees_55 rfl ?_
            refine T_g0F (v := .int (nI s)) hv0 8 (by decide) fl_X3_48 (congrArg (fun z => some (Value.int z)) hs) dX3_sees_56 ?_
            refine T_iconst (v := nI 1) dX3_sees_59 rfl ?_
            first | refine T_iaddN dX3_sees_60 ?_ | refine T_iadd dX3_sees_60 ?_
            refine T_p0F hv0 8 (by decide) rfl rfl fl_X3_48 (by decide) rfl dX3_sees_61 ?_
            refine T_aload_n dX3_sees_64 rfl rfl ?_
            refine T_g0F hv0 8 (by decide) fl_X3_48 rfl dX3_sees_65 ?_
            refine T_iret rfl dX3_sees_68 ?_
            exact hO ⟨h1, h6, h10, h17⟩ hlt
          · refine T_bipush (v := -3) dX3_sees_31 (by decide) ?_
            refine T_iret rfl dX3_sees_33 ?_
            exact hF ⟨h1, h6, h10, h17⟩ (fun z => h28 (by rw [hs]; exact nI_lt z (by omega)))
        · refine T_iconst (v := -1) dX3_sees_20 rfl ?_
          refine T_iret rfl dX3_sees_21 ?_
          refine hB (fun q => ?_)
          first | exact q.1 h1 | exact q.2.1 h6 | exact q.2.2.1 h10 | exact h17 q.2.2.2
set_option maxHeartbeats 4000000 in
set_option maxRecDepth 100000 in
theorem k_X3_forget {X : Cx} {l : Launch} {σ0 : Hp} {h : Rg} (hv0 : Lv X 0 0) : Con X l yX3_forget cX3_forget 2 (some .int) 0 [.ref (adr X 0 0 0)] (setR σ0 0 0 h) (Ex (some (.int (h 0 8))) (setR σ0 0 0 (up2 h 0 8 (nI 0)))) := by
  refine Con_of [some (.ref (adr X 0 0 0)), none] (by decide) rfl (Nat.le_of_ble_eq_true rfl) ?_
  refine T_aload_n dX3_forget_0 rfl rfl ?_
  refine T_g0F hv0 8 (by decide) fl_X3_48 rfl dX3_forget_1 ?_
  refine T_istore1 dX3_forget_4 rfl (by decide) ?_
  refine T_aload_n dX3_forget_5 rfl rfl ?_
  refine T_iconst (v := nI 0) dX3_forget_6 rfl ?_
  refine T_p0F hv0 8 (by decide) rfl rfl fl_X3_48 (by decide) rfl dX3_forget_7 ?_
  refine T_iload_n dX3_forget_10 rfl rfl ?_
  refine T_iret rfl dX3_forget_11 ?_
  exact ⟨rfl, rfl⟩
set_option maxHeartbeats 4000000 in
set_option maxRecDepth 100000 in
theorem k_X3_keep {X : Cx} {l : Launch} {σ : Hp} {Q : Option Value → Hp → Prop} {x : Int32} (hL : LVs X) (hB : (∀ j, j < 2 → ¬ x = nI j) → Q (some (.int (-1))) σ) (hO : ∀ j, j < 2 → x = nI j → Q (some (.int (σ 1 0 0 1))) (setR (setR σ 1 (10 + j) (σ 1 0)) 0 0 (up2 (σ 0 0) 2 j (nI 1)))) : Con X l yX3_keep cX3_keep 2 (some .int) 3 [.ref (adr X 0 0 0), .int x] σ Q := by
  refine Con_of [some (.ref (adr X 0 0 0)), some (.int x)] (by decide) rfl (Nat.le_of_ble_eq_true rfl) ?_
  have hL0 := hL
  obtain ⟨hv0, hvA, hv2, hv3⟩ := hL
  have hv1 := hvA 0 (by decide)
  have hvt := hvA 1 (by decide)
  have hgo : ¬ x < 0 → x < nI 2 → T X l yX3_keep cX3_keep 2 (some .int) 3 11 [some (.ref (adr X 0 0 0)), some (.int x)] [] σ Q := by
    intro h1 h6
    obtain ⟨j, hj31, hxj⟩ := nI_of h1
    have hj : j < 2 := Classical.byContradiction fun z => absurd (hxj ▸ h6) (nI_nlt (by omega) hj31)
    rcases (show j = 0 ∨ j = 1 by omega) with rfl | rfl
    · rw [hxj]
      refine T_aload_n dX3_keep_11 rfl rfl ?_
      refine T_g0 hv0 4 (by decide) fl_X3_33 rfl dX3_keep_12 ?_
      refine T_iload_n dX3_keep_15 rfl rfl ?_
      refine T_aald rfl (hv0 1 (by decide)) rfl (Nat.le_of_ble_eq_true rfl) 0 (by decide) rfl rfl dX3_keep_16 ?_
      refine T_aload_n dX3_keep_17 rfl rfl ?_
      refine T_g0 hv0 0 (by decide) fl_X3_10 rfl dX3_keep_18 ?_
      refine T_vv (Rc_of ((hvA 10 (by decide)) 0 (by decide)) rfl rfl) (k_takeU (show ¬ 0 = 10 by decide) (hvA 10 (by decide)) hv1) ml_X3_74 im_yX1_takeFrom se_RX1_yX1_takeFrom ini_RX1 co_yX1_takeFrom rfl de_X1_takeFrom (by decide) (by decide) rfl (Nat.le_of_ble_eq_true rfl) dX3_keep_21 ?_
      refine T_aload_n dX3_keep_24 rfl rfl ?_
      refine T_g0 hv0 5 (by decide) fl_X3_37 rfl dX3_keep_25 ?_
      refine T_iload_n dX3_keep_28 rfl rfl ?_
      refine T_iconst (v := nI 1) dX3_keep_29 rfl ?_
      refine T_zast rfl (hv0 _ (by decide)) (fun _ => rfl) (Nat.le_of_ble_eq_true rfl) (0) (by decide) (rfl) rfl dX3_keep_30 ?_
      refine T_aload_n dX3_keep_31 rfl rfl ?_
      refine T_g0 hv0 0 (by decide) fl_X3_10 rfl dX3_keep_32 ?_
      refine T_g1 hv1 1 (by decide) fl_X3_88 rfl dX3_keep_35 ?_
      refine T_iret rfl dX3_keep_38 ?_
      exact hO 0 (by decide) hxj
    · rw [hxj]
      refine T_aload_n dX3_keep_11 rfl rfl ?_
      refine T_g0 hv0 4 (by decide) fl_X3_33 rfl dX3_keep_12 ?_
      refine T_iload_n dX3_keep_15 rfl rfl ?_
      refine T_aald rfl (hv0 1 (by decide)) rfl (Nat.le_of_ble_eq_true rfl) 1 (by decide) rfl rfl dX3_keep_16 ?_
      refine T_aload_n dX3_keep_17 rfl rfl ?_
      refine T_g0 hv0 0 (by decide) fl_X3_10 rfl dX3_keep_18 ?_
      refine T_vv (Rc_of ((hvA 11 (by decide)) 0 (by decide)) rfl rfl) (k_takeU (show ¬ 0 = 11 by decide) (hvA 11 (by decide)) hv1) ml_X3_74 im_yX1_takeFrom se_RX1_yX1_takeFrom ini_RX1 co_yX1_takeFrom rfl de_X1_takeFrom (by decide) (by decide) rfl (Nat.le_of_ble_eq_true rfl) dX3_keep_21 ?_
      refine T_aload_n dX3_keep_24 rfl rfl ?_
      refine T_g0 hv0 5 (by decide) fl_X3_37 rfl dX3_keep_25 ?_
      refine T_iload_n dX3_keep_28 rfl rfl ?_
      refine T_iconst (v := nI 1) dX3_keep_29 rfl ?_
      refine T_zast rfl (hv0 _ (by decide)) (fun _ => rfl) (Nat.le_of_ble_eq_true rfl) (1) (by decide) (rfl) rfl dX3_keep_30 ?_
      refine T_aload_n dX3_keep_31 rfl rfl ?_
      refine T_g0 hv0 0 (by decide) fl_X3_10 rfl dX3_keep_32 ?_
      refine T_g1 hv1 1 (by decide) fl_X3_88 rfl dX3_keep_35 ?_
      refine T_iret rfl dX3_keep_38 ?_
      exact hO 1 (by decide) hxj
  refine T_iload_n dX3_keep_0 rfl rfl ?_
  refine T_if_lt 9 dX3_keep_1 (by decide) (fun h1 => ?_) (fun h1 => ?_)
  · refine T_iconst (v := -1) dX3_keep_9 rfl ?_
    refine T_iret rfl dX3_keep_10 ?_
    refine hB (fun j hj e => ?_)
    first | exact absurd h1 (e ▸ nI_pos (by omega)) | exact h6 (by rw [e]; exact nI_lt hj (by omega))
  · refine T_iload_n dX3_keep_4 rfl rfl ?_
    refine T_iconst (v := nI 2) dX3_keep_5 rfl ?_
    refine T_icmp_lt 11 dX3_keep_6 (by decide) (fun h6 => ?_) (fun h6 => ?_)
    · exact hgo h1 h6
    · refine T_iconst (v := -1) dX3_keep_9 rfl ?_
      refine T_iret rfl dX3_keep_10 ?_
      refine hB (fun j hj e => ?_)
      first | exact absurd h1 (e ▸ nI_pos (by omega)) | exact h6 (by rw [e]; exact nI_lt hj (by omega))
set_option maxHeartbeats 4000000 in
set_option maxRecDepth 100000 in
theorem k_X3_back {X : Cx} {l : Launch} {σ : Hp} {Q : Option Value → Hp → Prop} {x : Int32} (hL : LVs X) (hB : (∀ j, j < 2 → ¬ x = nI j) → Q (some (.int (-1))) σ) (hS : ∀ j, j < 2 → x = nI j → σ 0 0 2 j = 0 → Q (some (.int (-2))) σ) (hO : ∀ j, j < 2 → x = nI j → ¬ σ 0 0 2 j = 0 → Q (some (.int (σ 1 (10 + j) 0 1))) (setR (setR σ 1 0 (σ 1 (10 + j))) 2 0 (up2 (σ 2 0) 0 2 (nI 0)))) : Con X l yX3_back cX3_back 2 (some .int) 3 [.ref (adr X 0 0 0), .int x] σ Q := by
  refine Con_of [some (.ref (adr X 0 0 0)), some (.int x)] (by decide) rfl (Nat.le_of_ble_eq_true rfl) ?_
  have hL0 := hL
  obtain ⟨hv0, hvA, hv2, hv3⟩ := hL
  have hv1 := hvA 0 (by decide)
  have hvt := hvA 1 (by decide)
  have hgo : ¬ x < 0 → x < nI 2 → T X l yX3_back cX3_back 2 (some .int) 3 11 [some (.ref (adr X 0 0 0)), some (.int x)] [] σ Q := by
    intro h1 h6
    obtain ⟨j, hj31, hxj⟩ := nI_of h1
    have hj : j < 2 := Classical.byContradiction fun z => absurd (hxj ▸ h6) (nI_nlt (by omega) hj31)
    rcases (show j = 0 ∨ j = 1 by omega) with rfl | rfl
    · rw [hxj]
      refine T_aload_n dX3_back_11 rfl rfl ?_
      refine T_g0 hv0 5 (by decide) fl_X3_37 rfl dX3_back_12 ?_
      refine T_iload_n dX3_back_15 rfl rfl ?_
      refine T_zald rfl (hv0 _ (by decide)) rfl (Nat.le_of_ble_eq_true rfl) (0) (by decide) (rfl) dX3_back_16 ?_
      refine T_if_ne 23 dX3_back_17 (by decide) (fun h17 => ?_) (fun h17 => ?_)
      · refine T_aload_n dX3_back_23 rfl rfl ?_
        refine T_g0 hv0 0 (by decide) fl_X3_10 rfl dX3_back_24 ?_
        refine T_aload_n dX3_back_27 rfl rfl ?_
        refine T_g0 hv0 4 (by decide) fl_X3_33 rfl dX3_back_28 ?_
        refine T_iload_n dX3_back_31 rfl rfl ?_
        refine T_aald rfl (hv0 1 (by decide)) rfl (Nat.le_of_ble_eq_true rfl) 0 (by decide) rfl rfl dX3_back_32 ?_
        refine T_vv (Rc_of (hv1 0 (by decide)) rfl rfl) (k_takeU (show ¬ 10 = 0 by decide) hv1 (hvA 10 (by decide))) ml_X3_74 im_yX1_takeFrom se_RX1_yX1_takeFrom ini_RX1 co_yX1_takeFrom rfl de_X1_takeFrom (by decide) (by decide) rfl (Nat.le_of_ble_eq_true rfl) dX3_back_33 ?_
        refine T_aload_n dX3_back_36 rfl rfl ?_
        refine T_g0 hv0 2 (by decide) fl_X3_22 rfl dX3_back_37 ?_
        refine T_vv (Rc_of (hv2 0 (by decide)) rfl rfl) (k_X0_lose hv2) ml_X3_195 im_yX0_lose se_RX0_yX0_lose ini_RX0 co_yX0_lose rfl de_X0_lose (by decide) (by decide) rfl (Nat.le_of_ble_eq_true rfl) dX3_back_40 ?_
        refine T_aload_n dX3_back_43 rfl rfl ?_
        refine T_g0 hv0 0 (by decide) fl_X3_10 rfl dX3_back_44 ?_
        refine T_g1 hv1 1 (by decide) fl_X3_88 rfl dX3_back_47 ?_
        refine T_iret rfl dX3_back_50 ?_
        exact hO 0 (by decide) hxj h17
      · refine T_bipush (v := -2) dX3_back_20 (by decide) ?_
        refine T_iret rfl dX3_back_22 ?_
        exact hS 0 (by decide) hxj h17
    · rw [hxj]
      refine T_aload_n dX3_back_11 rfl rfl ?_
      refine T_g0 hv0 5 (by decide) fl_X3_37 rfl dX3_back_12 ?_
      refine T_iload_n dX3_back_15 rfl rfl ?_
      refine T_zald rfl (hv0 _ (by decide)) rfl (Nat.le_of_ble_eq_true rfl) (1) (by decide) (rfl) dX3_back_16 ?_
      refine T_if_ne 23 dX3_back_17 (by decide) (fun h17 => ?_) (fun h17 => ?_)
      · refine T_aload_n dX3_back_23 rfl rfl ?_
        refine T_g0 hv0 0 (by decide) fl_X3_10 rfl dX3_back_24 ?_
        refine T_aload_n dX3_back_27 rfl rfl ?_
        refine T_g0 hv0 4 (by decide) fl_X3_33 rfl dX3_back_28 ?_
        refine T_iload_n dX3_back_31 rfl rfl ?_
        refine T_aald rfl (hv0 1 (by decide)) rfl (Nat.le_of_ble_eq_true rfl) 1 (by decide) rfl rfl dX3_back_32 ?_
        refine T_vv (Rc_of (hv1 0 (by decide)) rfl rfl) (k_takeU (show ¬ 11 = 0 by decide) hv1 (hvA 11 (by decide))) ml_X3_74 im_yX1_takeFrom se_RX1_yX1_takeFrom ini_RX1 co_yX1_takeFrom rfl de_X1_takeFrom (by decide) (by decide) rfl (Nat.le_of_ble_eq_true rfl) dX3_back_33 ?_
        refine T_aload_n dX3_back_36 rfl rfl ?_
        refine T_g0 hv0 2 (by decide) fl_X3_22 rfl dX3_back_37 ?_
        refine T_vv (Rc_of (hv2 0 (by decide)) rfl rfl) (k_X0_lose hv2) ml_X3_195 im_yX0_lose se_RX0_yX0_lose ini_RX0 co_yX0_lose rfl de_X0_lose (by decide) (by decide) rfl (Nat.le_of_ble_eq_true rfl) dX3_back_40 ?_
        refine T_aload_n dX3_back_43 rfl rfl ?_
        refine T_g0 hv0 0 (by decide) fl_X3_10 rfl dX3_back_44 ?_
        refine T_g1 hv1 1 (by decide) fl_X3_88 rfl dX3_back_47 ?_
        refine T_iret rfl dX3_back_50 ?_
        exact hO 1 (by decide) hxj h17
      · refine T_bipush (v := -2) dX3_back_20 (by decide) ?_
        refine T_iret rfl dX3_back_22 ?_
        exact hS 1 (by decide) hxj h17
  refine T_iload_n dX3_back_0 rfl rfl ?_
  refine T_if_lt 9 dX3_back_1 (by decide) (fun h1 => ?_) (fun h1 => ?_)
  · refine T_iconst (v := -1) dX3_back_9 rfl ?_
    refine T_iret rfl dX3_back_10 ?_
    refine hB (fun j hj e => ?_)
    first | exact absurd h1 (e ▸ nI_pos (by omega)) | exact h6 (by rw [e]; exact nI_lt hj (by omega))
  · refine T_iload_n dX3_back_4 rfl rfl ?_
    refine T_iconst (v := nI 2) dX3_back_5 rfl ?_
    refine T_icmp_lt 11 dX3_back_6 (by decide) (fun h6 => ?_) (fun h6 => ?_)
    · exact hgo h1 h6
    · refine T_iconst (v := -1) dX3_back_9 rfl ?_
      refine T_iret rfl dX3_back_10 ?_
      refine hB (fun j hj e => ?_)
      first | exact absurd h1 (e ▸ nI_pos (by omega)) | exact h6 (by rw [e]; exact nI_lt hj (by omega))
set_option maxHeartbeats 4000000 in
set_option maxRecDepth 100000 in
theorem k_X3_count {X : Cx} {l : Launch} {σ : Hp} {Q : Option Value → Hp → Prop} {w : Int32} (hL : LVs X) (hw : CW σ) (hD : (∀ k, k ≤ 7 → ¬ w = nI k) → Q (some (.int (-1))) σ) (hO : ∀ k, k < 8 → w = nI k → Q (some (.int (cnS σ k))) σ) : Con X l yX3_count cX3_count 2 (some .int) 2 [.ref (adr X 0 0 0), .int w] σ Q := by
  refine Con_of [some (.ref (adr X 0 0 0)), some (.int w)] (by decide) rfl (Nat.le_of_ble_eq_true rfl) ?_
  have hL0 := hL
  obtain ⟨hv0, hvA, hv2, hv3⟩ := hL
  have hv1 := hvA 0 (by decide)
  have hvt := hvA 1 (by decide)
  have hW := hw.1
  have hWc := hw.1.2.2.1
  have hWw := hw.1.2.2.2.2
  refine T_iload_n dX3_count_0 rfl rfl ?_
  by_cases hk0 : w = nI 0
  · rw [hk0]
    refine T_tableIn (off := 47) 48 dX3_count_1 (by decide) (by decide) rfl (by decide) ?_
    refine T_aload_n dX3_count_48 rfl rfl ?_
    refine T_g0 hv0 0 (by decide) fl_X3_10 rfl dX3_count_49 ?_
    refine T_g1 hv1 0 (by decide) fl_X3_183 rfl dX3_count_52 ?_
    refine T_iret rfl dX3_count_55 ?_
    exact hO 0 (by decide) hk0
  by_cases hk1 : w = nI 1
  · rw [hk1]
    refine T_tableIn (off := 55) 56 dX3_count_1 (by decide) (by decide) rfl (by decide) ?_
    refine T_aload_n dX3_count_56 rfl rfl ?_
    refine T_g0 hv0 0 (by decide) fl_X3_10 rfl dX3_count_57 ?_
    refine T_g1 hv1 1 (by decide) fl_X3_88 rfl dX3_count_60 ?_
    refine T_iret rfl dX3_count_63 ?_
    exact hO 1 (by decide) hk1
  by_cases hk2 : w = nI 2
  · rw [hk2]
    refine T_tableIn (off := 63) 64 dX3_count_1 (by decide) (by decide) rfl (by decide) ?_
    refine T_aload_n dX3_count_64 rfl rfl ?_
    refine T_g0 hv0 0 (by decide) fl_X3_10 rfl dX3_count_65 ?_
    refine T_g1 hv1 2 (by decide) fl_X3_81 rfl dX3_count_68 ?_
    refine T_iret rfl dX3_count_71 ?_
    exact hO 2 (by decide) hk2
  by_cases hk3 : w = nI 3
  · rw [hk3]
    refine T_tableIn (off := 71) 72 dX3_count_1 (by decide) (by decide) rfl (by decide) ?_
    refine T_aload_n dX3_count_72 rfl rfl ?_
    refine T_g0 hv0 0 (by decide) fl_X3_10 rfl dX3_count_73 ?_
    refine T_aload_n dX3_count_76 rfl rfl ?_
    refine T_g0 hv0 0 (by decide) fl_X3_10 rfl dX3_count_77 ?_
    refine T_vi (Rc_of (hv1 0 (by decide)) rfl rfl) (con_uq rfl (k_X1_allWrites hv1)) ml_X3_198 im_yX1_allWrites se_RX1_yX1_allWrites ini_RX1 co_yX1_allWrites rfl de_X1_allWrites (by decide) (by decide) rfl (Nat.le_of_ble_eq_true rfl) dX3_count_80 ?_
    refine T_vi (Rc_of (hv1 0 (by decide)) rfl rfl) (con_uq rfl (k_X1_weightOf hv1 hW)) ml_X3_201 im_yX1_weightOf se_RX1_yX1_weightOf ini_RX1 co_yX1_weightOf rfl de_X1_weightOf (by decide) (by decide) rfl (Nat.le_of_ble_eq_true rfl) dX3_count_83 ?_
    refine T_iret rfl dX3_count_86 ?_
    exact hO 3 (by decide) hk3
  by_cases hk4 : w = nI 4
  · rw [hk4]
    refine T_tableIn (off := 86) 87 dX3_count_1 (by decide) (by decide) rfl (by decide) ?_
    refine T_aload_n dX3_count_87 rfl rfl ?_
    refine T_g0 hv0 0 (by decide) fl_X3_10 rfl dX3_count_88 ?_
    refine T_aload_n dX3_count_91 rfl rfl ?_
    refine T_g0 hv0 0 (by decide) fl_X3_10 rfl dX3_count_92 ?_
    refine T_g1 hv1 6 (by decide) fl_X3_95 rfl dX3_count_95 ?_
    refine T_aload_n dX3_count_98 rfl rfl ?_
    refine T_g0 hv0 0 (by decide) fl_X3_10 rfl dX3_count_99 ?_
    refine T_vi (Rc_of (hv1 0 (by decide)) rfl rfl) (con_uq rfl (k_X1_allWrites hv1)) ml_X3_198 im_yX1_allWrites se_RX1_yX1_allWrites ini_RX1 co_yX1_allWrites rfl de_X1_allWrites (by decide) (by decide) rfl (Nat.le_of_ble_eq_true rfl) dX3_count_102 ?_
    refine T_vi (Rc_of (hv1 0 (by decide)) rfl rfl) (con_uq rfl (k_X1_copiesWith4 hv1 hW)) ml_X3_176 im_yX1_copiesWith se_RX1_yX1_copiesWith ini_RX1 co_yX1_copiesWith rfl de_X1_copiesWith (by decide) (by decide) rfl (Nat.le_of_ble_eq_true rfl) dX3_count_105 ?_
    refine T_iret rfl dX3_count_108 ?_
    exact hO 4 (by decide) hk4
  by_cases hk5 : w = nI 5
  · rw [hk5]
    refine T_tableIn (off := 108) 109 dX3_count_1 (by decide) (by decide) rfl (by decide) ?_
    refine T_aload_n dX3_count_109 rfl rfl ?_
    refine T_g0 hv0 8 (by decide) fl_X3_48 rfl dX3_count_110 ?_
    refine T_iret rfl dX3_count_113 ?_
    exact hO 5 (by decide) hk5
  by_cases hk6 : w = nI 6
  · rw [hk6]
    refine T_tableIn (off := 113) 114 dX3_count_1 (by decide) (by decide) rfl (by decide) ?_
    refine T_aload_n dX3_count_114 rfl rfl ?_
    refine T_g0 hv0 3 (by decide) fl_X3_29 rfl dX3_count_115 ?_
    refine T_g3 hv3 1 (by decide) fl_X3_55 rfl dX3_count_118 ?_
    refine T_iret rfl dX3_count_121 ?_
    exact hO 6 (by decide) hk6
  by_cases hk7 : w = nI 7
  · rw [hk7]
    refine T_tableIn (off := 121) 122 dX3_count_1 (by decide) (by decide) rfl (by decide) ?_
    refine T_aload_n dX3_count_122 rfl rfl ?_
    refine T_g0 hv0 2 (by decide) fl_X3_22 rfl dX3_count_123 ?_
    refine T_g2 hv2 2 (by decide) fl_X3_128 rfl dX3_count_126 ?_
    refine T_iret rfl dX3_count_129 ?_
    exact hO 7 (by decide) hk7
  have hko : ∀ k, k ≤ 7 → ¬ w = nI k := by
    intro k hk
    rcases (show k = 0 ∨ k = 1 ∨ k = 2 ∨ k = 3 ∨ k = 4 ∨ k = 5 ∨ k = 6 ∨ k = 7 by omega) with rfl | rfl | rfl | rfl | rfl | rfl | rfl | rfl
    · exact hk0
    · exact hk1
    · exact hk2
    · exact hk3
    · exact hk4
    · exact hk5
    · exact hk6
    · exact hk7
  refine T_tableOut 130 dX3_count_1 (tab_out (n := 7) (by decide) hko) (by decide) ?_
  refine T_iconst (v := -1) dX3_count_130 rfl ?_
  refine T_iret rfl dX3_count_131 ?_
  exact hD hko
