set_option maxHeartbeats 4000000 in
set_option maxRecDepth 100000 in
theorem k_J7_fill_53178 {X : Cx} {l : Launch} {σ0 : Hp} {h : Rg} {r : Nat} {q n : Nat} {v : Int32} (hid : (1, r, q) ∈ ids X) (hc : ∀ g : Nat → Int32, cel X g 1 r q = arI X 0 n g) (hn : n < 1000) : Con X l yJ7_fill_53178 cJ7_fill_53178 4 none 0 [.ref (adr X 1 r q), .int v] (setR σ0 1 r h) (Ex none (setR σ0 1 r (up1 h q (fillT (h q) v n)))) := by
  refine Con_of [some (.ref (adr X 1 r q)), some (.int v), none, none] (by decide) rfl (Nat.le_of_ble_eq_true rfl) ?_
  have hlp : ∀ e k : Nat, k + e = n → T X l yJ7_fill_53178 cJ7_fill_53178 4 none 0 5 [some (.ref (adr X 1 r q)), some (.int v), some (.int (nI k)), some (.int (nI n))] [] (setR σ0 1 r (up1 h q (fillT (h q) v k))) (Ex none (setR σ0 1 r (up1 h q (fillT (h q) v n)))) := by
    intro e
    induction e with
    | zero =>
      intro k hk
      have hk : k = n := by omega
      subst hk
      refine T_iload_n dJ7_fill_53178_5 rfl rfl ?_
      refine T_iload_n dJ7_fill_53178_6 rfl rfl ?_
      refine T_icmp_ge 20 dJ7_fill_53178_7 (by decide) (fun h7 => ?_) (fun h7 => (absurd (nI_le (Nat.le_refl _) (by omega)) h7))
      refine T_vret rfl dJ7_fill_53178_20 ?_
      exact ⟨rfl, rfl⟩
    | succ e ih =>
      intro k hk
      have hnx := ih (k + 1) (by omega)
      have hk : k < n := by omega
      refine T_iload_n dJ7_fill_53178_5 rfl rfl ?_
      refine T_iload_n dJ7_fill_53178_6 rfl rfl ?_
      refine T_icmp_ge 20 dJ7_fill_53178_7 (by decide) (fun h7 => (absurd h7 (nI_ge hk (by omega)))) (fun h7 => ?_)
      refine T_aload_n dJ7_fill_53178_10 rfl rfl ?_
      refine T_iload_n dJ7_fill_53178_11 rfl rfl ?_
      refine T_iload_n dJ7_fill_53178_12 rfl rfl ?_
      refine T_iastF hid hc (by omega) _ (by omega) rfl dJ7_fill_53178_13 ?_
      first | refine T_iincN2 dJ7_fill_53178_14 rfl (by decide) ?_ | refine T_iinc2 dJ7_fill_53178_14 rfl rfl (by decide) ?_
      refine T_goto 5 dJ7_fill_53178_17 (by decide) ?_
      rw [up2_of1]; exact hnx
  refine T_iconst (v := nI 0) dJ7_fill_53178_0 rfl ?_
  refine T_istore2 dJ7_fill_53178_1 rfl (by decide) ?_
  refine T_aload_n dJ7_fill_53178_2 rfl rfl ?_
  refine T_alen (g := h q) (by rw [setR_self]) hid (hc _) (by decide) (v := nI n) rfl dJ7_fill_53178_3 ?_
  refine T_istore3 dJ7_fill_53178_4 rfl (by decide) ?_
  have h0 := hlp n 0 (by omega)
  rw [show up1 h q (fillT (h q) v 0) = h from up1_id h q] at h0
  exact h0
set_option maxHeartbeats 4000000 in
set_option maxRecDepth 100000 in
theorem k_X1_startAnew {X : Cx} {l : Launch} {σ0 : Hp} {h : Rg} {r : Nat} (hv1 : Lv X 1 r) : Con X l yX1_startAnew cX1_startAnew 1 none 1 [.ref (adr X 1 r 0)] (setR σ0 1 r h) (Ex none (setR σ0 1 r (newS h))) := by
  refine Con_of [some (.ref (adr X 1 r 0))] (by decide) rfl (Nat.le_of_ble_eq_true rfl) ?_
  refine T_aload_n dX1_startAnew_0 rfl rfl ?_
  refine T_iconst (v := nI 3) dX1_startAnew_1 rfl ?_
  refine T_p1F hv1 0 (by decide) rfl rfl fl_X1_48 (by decide) rfl dX1_startAnew_2 ?_
  refine T_aload_n dX1_startAnew_5 rfl rfl ?_
  refine T_iconst (v := nI 0) dX1_startAnew_6 rfl ?_
  refine T_p1F hv1 1 (by decide) rfl rfl fl_X1_52 (by decide) rfl dX1_startAnew_7 ?_
  refine T_aload_n dX1_startAnew_10 rfl rfl ?_
  refine T_iconst (v := nI 0) dX1_startAnew_11 rfl ?_
  refine T_p1F hv1 2 (by decide) rfl rfl fl_X1_55 (by decide) rfl dX1_startAnew_12 ?_
  refine T_aload_n dX1_startAnew_15 rfl rfl ?_
  refine T_g1F hv1 3 (by decide) fl_X1_9 rfl dX1_startAnew_16 ?_
  refine T_bipush (v := nI 99) dX1_startAnew_19 (by decide) ?_
  refine T_sv (k_J7_fill_53178 (hv1 _ (by decide)) (fun _ => rfl) (by decide)) ml_X1_58 sm_yJ7_fill_53178 ini_RJ7 co_yJ7_fill_53178 de_J7_fill_53178 (by decide) (by decide) rfl (Nat.le_of_ble_eq_true rfl) dX1_startAnew_21 ?_
  refine T_aload_n dX1_startAnew_24 rfl rfl ?_
  refine T_g1F hv1 4 (by decide) fl_X1_15 rfl dX1_startAnew_25 ?_
  refine T_bipush (v := nI 9) dX1_startAnew_28 (by decide) ?_
  refine T_sv (k_J7_fill_53178 (hv1 _ (by decide)) (fun _ => rfl) (by decide)) ml_X1_58 sm_yJ7_fill_53178 ini_RJ7 co_yJ7_fill_53178 de_J7_fill_53178 (by decide) (by decide) rfl (Nat.le_of_ble_eq_true rfl) dX1_startAnew_30 ?_
  refine T_aload_n dX1_startAnew_33 rfl rfl ?_
  refine T_g1F hv1 5 (by decide) fl_X1_18 rfl dX1_startAnew_34 ?_
  refine T_bipush (v := nI 99) dX1_startAnew_37 (by decide) ?_
  refine T_sv (k_J7_fill_53178 (hv1 _ (by decide)) (fun _ => rfl) (by decide)) ml_X1_58 sm_yJ7_fill_53178 ini_RJ7 co_yJ7_fill_53178 de_J7_fill_53178 (by decide) (by decide) rfl (Nat.le_of_ble_eq_true rfl) dX1_startAnew_39 ?_
  refine T_aload_n dX1_startAnew_42 rfl rfl ?_
  refine T_g1F hv1 6 (by decide) fl_X1_21 rfl dX1_startAnew_43 ?_
  refine T_iconst (v := nI 0) dX1_startAnew_46 rfl ?_
  refine T_sv (k_J7_fill_53178 (hv1 _ (by decide)) (fun _ => rfl) (by decide)) ml_X1_58 sm_yJ7_fill_53178 ini_RJ7 co_yJ7_fill_53178 de_J7_fill_53178 (by decide) (by decide) rfl (Nat.le_of_ble_eq_true rfl) dX1_startAnew_47 ?_
  refine T_aload_n dX1_startAnew_50 rfl rfl ?_
  refine T_g1F hv1 7 (by decide) fl_X1_24 rfl dX1_startAnew_51 ?_
  refine T_iconst (v := nI 0) dX1_startAnew_54 rfl ?_
  refine T_sv (k_J7_fill_53178 (hv1 _ (by decide)) (fun _ => rfl) (by decide)) ml_X1_58 sm_yJ7_fill_53178 ini_RJ7 co_yJ7_fill_53178 de_J7_fill_53178 (by decide) (by decide) rfl (Nat.le_of_ble_eq_true rfl) dX1_startAnew_55 ?_
  refine T_aload_n dX1_startAnew_58 rfl rfl ?_
  refine T_g1F hv1 8 (by decide) fl_X1_27 rfl dX1_startAnew_59 ?_
  refine T_iconst (v := nI 0) dX1_startAnew_62 rfl ?_
  refine T_sv (k_J7_fill_53178 (hv1 _ (by decide)) (fun _ => rfl) (by decide)) ml_X1_58 sm_yJ7_fill_53178 ini_RJ7 co_yJ7_fill_53178 de_J7_fill_53178 (by decide) (by decide) rfl (Nat.le_of_ble_eq_true rfl) dX1_startAnew_63 ?_
  refine T_vret rfl dX1_startAnew_66 ?_
  exact ⟨rfl, rfl⟩
set_option maxHeartbeats 4000000 in
set_option maxRecDepth 100000 in
theorem k_X1_takeFrom {X : Cx} {l : Launch} {σ0 : Hp} {h : Rg} {r : Nat} {r2 : Nat} (hne : ¬ r2 = r) (hv1 : Lv X 1 r) (hv2 : Lv X 1 r2) : Con X l yX1_takeFrom cX1_takeFrom 2 none 2 [.ref (adr X 1 r 0), .ref (adr X 1 r2 0)] (setR σ0 1 r h) (Ex none (setR σ0 1 r (σ0 1 r2))) := by
  refine Con_of [some (.ref (adr X 1 r 0)), some (.ref (adr X 1 r2 0))] (by decide) rfl (Nat.le_of_ble_eq_true rfl) ?_
  refine T_aload_n dX1_takeFrom_0 rfl rfl ?_
  refine T_aload_n dX1_takeFrom_1 rfl rfl ?_
  refine T_g1O hne hv2 0 (by decide) fl_X1_48 rfl dX1_takeFrom_2 ?_
  refine T_p1F hv1 0 (by decide) rfl rfl fl_X1_48 (by decide) rfl dX1_takeFrom_5 ?_
  refine T_aload_n dX1_takeFrom_8 rfl rfl ?_
  refine T_aload_n dX1_takeFrom_9 rfl rfl ?_
  refine T_g1O hne hv2 1 (by decide) fl_X1_52 rfl dX1_takeFrom_10 ?_
  refine T_p1F hv1 1 (by decide) rfl rfl fl_X1_52 (by decide) rfl dX1_takeFrom_13 ?_
  refine T_aload_n dX1_takeFrom_16 rfl rfl ?_
  refine T_aload_n dX1_takeFrom_17 rfl rfl ?_
  refine T_g1O hne hv2 2 (by decide) fl_X1_55 rfl dX1_takeFrom_18 ?_
  refine T_p1F hv1 2 (by decide) rfl rfl fl_X1_55 (by decide) rfl dX1_takeFrom_21 ?_
  refine T_aload_n dX1_takeFrom_24 rfl rfl ?_
  refine T_g1O hne hv2 3 (by decide) fl_X1_9 rfl dX1_takeFrom_25 ?_
  refine T_iconst (v := nI 0) dX1_takeFrom_28 rfl ?_
  refine T_aload_n dX1_takeFrom_29 rfl rfl ?_
  refine T_g1F hv1 3 (by decide) fl_X1_9 rfl dX1_takeFrom_30 ?_
  refine T_iconst (v := nI 0) dX1_takeFrom_33 rfl ?_
  refine T_iconst (v := nI 4) dX1_takeFrom_34 rfl ?_
  refine T_acO hne ml_X1_64 (hv2 _ (by decide)) (hv1 _ (by decide)) (fun _ => rfl) (fun _ => rfl) (Nat.le_of_ble_eq_true rfl) rfl (by decide) (Nat.le_of_ble_eq_true rfl) dX1_takeFrom_35 ?_
  refine T_aload_n dX1_takeFrom_38 rfl rfl ?_
  refine T_g1O hne hv2 4 (by decide) fl_X1_15 rfl dX1_takeFrom_39 ?_
  refine T_iconst (v := nI 0) dX1_takeFrom_42 rfl ?_
  refine T_aload_n dX1_takeFrom_43 rfl rfl ?_
  refine T_g1F hv1 4 (by decide) fl_X1_15 rfl dX1_takeFrom_44 ?_
  refine T_iconst (v := nI 0) dX1_takeFrom_47 rfl ?_
  refine T_iconst (v := nI 4) dX1_takeFrom_48 rfl ?_
  refine T_acO hne ml_X1_64 (hv2 _ (by decide)) (hv1 _ (by decide)) (fun _ => rfl) (fun _ => rfl) (Nat.le_of_ble_eq_true rfl) rfl (by decide) (Nat.le_of_ble_eq_true rfl) dX1_takeFrom_49 ?_
  refine T_aload_n dX1_takeFrom_52 rfl rfl ?_
  refine T_g1O hne hv2 5 (by decide) fl_X1_18 rfl dX1_takeFrom_53 ?_
  refine T_iconst (v := nI 0) dX1_takeFrom_56 rfl ?_
  refine T_aload_n dX1_takeFrom_57 rfl rfl ?_
  refine T_g1F hv1 5 (by decide) fl_X1_18 rfl dX1_takeFrom_58 ?_
  refine T_iconst (v := nI 0) dX1_takeFrom_61 rfl ?_
  refine T_iconst (v := nI 4) dX1_takeFrom_62 rfl ?_
  refine T_acO hne ml_X1_64 (hv2 _ (by decide)) (hv1 _ (by decide)) (fun _ => rfl) (fun _ => rfl) (Nat.le_of_ble_eq_true rfl) rfl (by decide) (Nat.le_of_ble_eq_true rfl) dX1_takeFrom_63 ?_
  refine T_aload_n dX1_takeFrom_66 rfl rfl ?_
  refine T_g1O hne hv2 6 (by decide) fl_X1_21 rfl dX1_takeFrom_67 ?_
  refine T_iconst (v := nI 0) dX1_takeFrom_70 rfl ?_
  refine T_aload_n dX1_takeFrom_71 rfl rfl ?_
  refine T_g1F hv1 6 (by decide) fl_X1_21 rfl dX1_takeFrom_72 ?_
  refine T_iconst (v := nI 0) dX1_takeFrom_75 rfl ?_
  refine T_iconst (v := nI 4) dX1_takeFrom_76 rfl ?_
  refine T_acO hne ml_X1_64 (hv2 _ (by decide)) (hv1 _ (by decide)) (fun _ => rfl) (fun _ => rfl) (Nat.le_of_ble_eq_true rfl) rfl (by decide) (Nat.le_of_ble_eq_true rfl) dX1_takeFrom_77 ?_
  refine T_aload_n dX1_takeFrom_80 rfl rfl ?_
  refine T_g1O hne hv2 7 (by decide) fl_X1_24 rfl dX1_takeFrom_81 ?_
  refine T_iconst (v := nI 0) dX1_takeFrom_84 rfl ?_
  refine T_aload_n dX1_takeFrom_85 rfl rfl ?_
  refine T_g1F hv1 7 (by decide) fl_X1_24 rfl dX1_takeFrom_86 ?_
  refine T_iconst (v := nI 0) dX1_takeFrom_89 rfl ?_
  refine T_iconst (v := nI 4) dX1_takeFrom_90 rfl ?_
  refine T_acO hne ml_X1_64 (hv2 _ (by decide)) (hv1 _ (by decide)) (fun _ => rfl) (fun _ => rfl) (Nat.le_of_ble_eq_true rfl) rfl (by decide) (Nat.le_of_ble_eq_true rfl) dX1_takeFrom_91 ?_
  refine T_aload_n dX1_takeFrom_94 rfl rfl ?_
  refine T_g1O hne hv2 8 (by decide) fl_X1_27 rfl dX1_takeFrom_95 ?_
  refine T_iconst (v := nI 0) dX1_takeFrom_98 rfl ?_
  refine T_aload_n dX1_takeFrom_99 rfl rfl ?_
  refine T_g1F hv1 8 (by decide) fl_X1_27 rfl dX1_takeFrom_100 ?_
  refine T_iconst (v := nI 0) dX1_takeFrom_103 rfl ?_
  refine T_bipush (v := nI 16) dX1_takeFrom_104 (by decide) ?_
  refine T_acO hne ml_X1_64 (hv2 _ (by decide)) (hv1 _ (by decide)) (fun _ => rfl) (fun _ => rfl) (Nat.le_of_ble_eq_true rfl) rfl (by decide) (Nat.le_of_ble_eq_true rfl) dX1_takeFrom_106 ?_
  refine T_aload_n dX1_takeFrom_109 rfl rfl ?_
  refine T_g1O hne hv2 9 (by decide) fl_X1_30 rfl dX1_takeFrom_110 ?_
  refine T_iconst (v := nI 0) dX1_takeFrom_113 rfl ?_
  refine T_aload_n dX1_takeFrom_114 rfl rfl ?_
  refine T_g1F hv1 9 (by decide) fl_X1_30 rfl dX1_takeFrom_115 ?_
  refine T_iconst (v := nI 0) dX1_takeFrom_118 rfl ?_
  refine T_bipush (v := nI 16) dX1_takeFrom_119 (by decide) ?_
  refine T_acO hne ml_X1_64 (hv2 _ (by decide)) (hv1 _ (by decide)) (fun _ => rfl) (fun _ => rfl) (Nat.le_of_ble_eq_true rfl) rfl (by decide) (Nat.le_of_ble_eq_true rfl) dX1_takeFrom_121 ?_
  refine T_aload_n dX1_takeFrom_124 rfl rfl ?_
  refine T_g1O hne hv2 10 (by decide) fl_X1_33 rfl dX1_takeFrom_125 ?_
  refine T_iconst (v := nI 0) dX1_takeFrom_128 rfl ?_
  refine T_aload_n dX1_takeFrom_129 rfl rfl ?_
  refine T_g1F hv1 10 (by decide) fl_X1_33 rfl dX1_takeFrom_130 ?_
  refine T_iconst (v := nI 0) dX1_takeFrom_133 rfl ?_
  refine T_bipush (v := nI 24) dX1_takeFrom_134 (by decide) ?_
  refine T_acO hne ml_X1_64 (hv2 _ (by decide)) (hv1 _ (by decide)) (fun _ => rfl) (fun _ => rfl) (Nat.le_of_ble_eq_true rfl) rfl (by decide) (Nat.le_of_ble_eq_true rfl) dX1_takeFrom_136 ?_
  refine T_aload_n dX1_takeFrom_139 rfl rfl ?_
  refine T_g1O hne hv2 11 (by decide) fl_X1_36 rfl dX1_takeFrom_140 ?_
  refine T_iconst (v := nI 0) dX1_takeFrom_143 rfl ?_
  refine T_aload_n dX1_takeFrom_144 rfl rfl ?_
  refine T_g1F hv1 11 (by decide) fl_X1_36 rfl dX1_takeFrom_145 ?_
  refine T_iconst (v := nI 0) dX1_takeFrom_148 rfl ?_
  refine T_bipush (v := nI 24) dX1_takeFrom_149 (by decide) ?_
  refine T_acO hne ml_X1_64 (hv2 _ (by decide)) (hv1 _ (by decide)) (fun _ => rfl) (fun _ => rfl) (Nat.le_of_ble_eq_true rfl) rfl (by decide) (Nat.le_of_ble_eq_true rfl) dX1_takeFrom_151 ?_
  refine T_aload_n dX1_takeFrom_154 rfl rfl ?_
  refine T_g1O hne hv2 12 (by decide) fl_X1_39 rfl dX1_takeFrom_155 ?_
  refine T_iconst (v := nI 0) dX1_takeFrom_158 rfl ?_
  refine T_aload_n dX1_takeFrom_159 rfl rfl ?_
  refine T_g1F hv1 12 (by decide) fl_X1_39 rfl dX1_takeFrom_160 ?_
  refine T_iconst (v := nI 0) dX1_takeFrom_163 rfl ?_
  refine T_bipush (v := nI 24) dX1_takeFrom_164 (by decide) ?_
  refine T_acO hne ml_X1_64 (hv2 _ (by decide)) (hv1 _ (by decide)) (fun _ => rfl) (fun _ => rfl) (Nat.le_of_ble_eq_true rfl) rfl (by decide) (Nat.le_of_ble_eq_true rfl) dX1_takeFrom_166 ?_
  refine T_re (σ' := setR σ0 1 r (σ0 1 r2)) ?_ (T_vret rfl dX1_takeFrom_169 ⟨rfl, rfl⟩)
  intro K r' k _ hk
  unfold setR
  by_cases hc : K = 1 ∧ r' = r
  · rw [if_pos hc, if_pos hc]
    obtain ⟨rfl, rfl⟩ := hc
    have hk : k < 11 := hk
    rcases (show k = 0 ∨ k = 1 ∨ k = 2 ∨ k = 3 ∨ k = 4 ∨ k = 5 ∨ k = 6 ∨ k = 7 ∨ k = 8 ∨ k = 9 ∨ k = 10 by omega) with rfl | rfl | rfl | rfl | rfl | rfl | rfl | rfl | rfl | rfl | rfl <;> rfl
  · rw [if_neg hc, if_neg hc]
theorem k_takeU {X : Cx} {l : Launch} {σ : Hp} {r r2 : Nat} (hne : ¬ r2 = r) (hv1 : Lv X 1 r) (hv2 : Lv X 1 r2) : Con X l yX1_takeFrom cX1_takeFrom 2 none 2 [.ref (adr X 1 r 0), .ref (adr X 1 r2 0)] σ (Ex none (setR σ 1 r (σ 1 r2))) := by
  have h0 := k_X1_takeFrom (l := l) (σ0 := σ) (h := σ 1 r) hne hv1 hv2
  rw [setR_id] at h0
  exact h0
