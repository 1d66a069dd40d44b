set_option maxHeartbeats 4000000 in
set_option maxRecDepth 100000 in
theorem k_X2_takeWord {X : Cx} {l : Launch} {σ0 : Hp} {t : Rg} {f s len : Nat} (hv3 : Lv X 3 0) (hl : t 0 1 = nI len) (hl8 : len ≤ 80) (hf : f < 81) (hs : s < len) : Con X l yX2_takeWord cX2_takeWord 4 (some .int) 5 [.ref (adr X 3 0 0), .int (nI f), .int (nI s)] (setR σ0 3 0 t) (Ex (some (.int (nI (runL (t 1) (len - s) s)))) (setR σ0 3 0 (up2 t 2 f (wK (t 1) s (runL (t 1) (len - s) s))))) := by
  refine Con_of [some (.ref (adr X 3 0 0)), some (.int (nI f)), some (.int (nI s)), none] (by decide) rfl (Nat.le_of_ble_eq_true rfl) ?_
  have hE := runL_le (t 1) (len - s) s
  have h28 : T X l yX2_takeWord cX2_takeWord 4 (some .int) 5 28 [some (.ref (adr X 3 0 0)), some (.int (nI f)), some (.int (nI s)), some (.int (nI (runL (t 1) (len - s) s)))] [] (setR σ0 3 0 t) (Ex (some (.int (nI (runL (t 1) (len - s) s)))) (setR σ0 3 0 (up2 t 2 f (wK (t 1) s (runL (t 1) (len - s) s))))) := by
    refine T_aload_n dX2_takeWord_28 rfl rfl ?_
    refine T_ldcS (fun _ h => h.2.2.2.2.1) dX2_takeWord_29 ?_
    refine T_iload_n dX2_takeWord_31 rfl rfl ?_
    refine T_iload_n dX2_takeWord_32 rfl rfl ?_
    refine T_vi (Rc_of (hv3 0 (by decide)) rfl rfl) (k_X2_spells (i := 0) hv3 (by decide) hE.1 (by omega)) ml_X2_87 im_yX2_spells se_RX2_yX2_spells ini_RX2 co_yX2_spells rfl de_X2_spells (by decide) (by decide) rfl (Nat.le_of_ble_eq_true rfl) dX2_takeWord_33 ?_
    refine T_if_eq 49 dX2_takeWord_36 (by decide) (fun h36 => ?_) (fun h36 => ?_)
    · refine T_aload_n dX2_takeWord_49 rfl rfl ?_
      refine T_g3F hv3 2 (by decide) fl_X2_19 rfl dX2_takeWord_50 ?_
      refine T_iload_n dX2_takeWord_53 rfl rfl ?_
      refine T_aload_n dX2_takeWord_54 rfl rfl ?_
      refine T_ldcS (fun _ h => h.2.2.2.2.2.1) dX2_takeWord_55 ?_
      refine T_iload_n dX2_takeWord_57 rfl rfl ?_
      refine T_iload_n dX2_takeWord_58 rfl rfl ?_
      refine T_vi (Rc_of (hv3 0 (by decide)) rfl rfl) (k_X2_spells (i := 1) hv3 (by decide) hE.1 (by omega)) ml_X2_87 im_yX2_spells se_RX2_yX2_spells ini_RX2 co_yX2_spells rfl de_X2_spells (by decide) (by decide) rfl (Nat.le_of_ble_eq_true rfl) dX2_takeWord_59 ?_
      refine T_if_eq 69 dX2_takeWord_62 (by decide) (fun h62 => ?_) (fun h62 => ?_)
      · refine T_iconst (v := nI 5) dX2_takeWord_69 rfl ?_
        refine T_iastF (hv3 _ (by decide)) (fun _ => rfl) (Nat.le_of_ble_eq_true rfl) _ (by omega) rfl dX2_takeWord_70 ?_
        refine T_iload_n dX2_takeWord_71 rfl rfl ?_
        refine T_iret rfl dX2_takeWord_72 ?_
        first | (refine ⟨rfl, ?_⟩; rw [wK, if_pos (b01_1 h36)]) | (refine ⟨rfl, ?_⟩; rw [wK, if_neg (b01_0 h36), if_pos (b01_1 h62)]) | (refine ⟨rfl, ?_⟩; rw [wK, if_neg (b01_0 h36), if_neg (b01_0 h62)])
      · refine T_iconst (v := nI 2) dX2_takeWord_65 rfl ?_
        refine T_goto 70 dX2_takeWord_66 (by decide) ?_
        refine T_iastF (hv3 _ (by decide)) (fun _ => rfl) (Nat.le_of_ble_eq_true rfl) _ (by omega) rfl dX2_takeWord_70 ?_
        refine T_iload_n dX2_takeWord_71 rfl rfl ?_
        refine T_iret rfl dX2_takeWord_72 ?_
        first | (refine ⟨rfl, ?_⟩; rw [wK, if_pos (b01_1 h36)]) | (refine ⟨rfl, ?_⟩; rw [wK, if_neg (b01_0 h36), if_pos (b01_1 h62)]) | (refine ⟨rfl, ?_⟩; rw [wK, if_neg (b01_0 h36), if_neg (b01_0 h62)])
    · refine T_aload_n dX2_takeWord_39 rfl rfl ?_
      refine T_g3F hv3 2 (by decide) fl_X2_19 rfl dX2_takeWord_40 ?_
      refine T_iload_n dX2_takeWord_43 rfl rfl ?_
      refine T_iconst (v := nI 1) dX2_takeWord_44 rfl ?_
      refine T_iastF (hv3 _ (by decide)) (fun _ => rfl) (Nat.le_of_ble_eq_true rfl) _ (by omega) rfl dX2_takeWord_45 ?_
      refine T_goto 71 dX2_takeWord_46 (by decide) ?_
      refine T_iload_n dX2_takeWord_71 rfl rfl ?_
      refine T_iret rfl dX2_takeWord_72 ?_
      first | (refine ⟨rfl, ?_⟩; rw [wK, if_pos (b01_1 h36)]) | (refine ⟨rfl, ?_⟩; rw [wK, if_neg (b01_0 h36), if_pos (b01_1 h62)]) | (refine ⟨rfl, ?_⟩; rw [wK, if_neg (b01_0 h36), if_neg (b01_0 h62)])
  have hlp : ∀ n e : Nat, e + n = len → s ≤ e → (runL (t 1) (len - s) s) = runL (t 1) n e → T X l yX2_takeWord cX2_takeWord 4 (some .int) 5 2 [some (.ref (adr X 3 0 0)), some (.int (nI f)), some (.int (nI s)), some (.int (nI e))] [] (setR σ0 3 0 t) (Ex (some (.int (nI (runL (t 1) (len - s) s)))) (setR σ0 3 0 (up2 t 2 f (wK (t 1) s (runL (t 1) (len - s) s))))) := by
    intro n
    induction n with
    | zero =>
      intro e he hse hr
      have he : e = len := by omega
      subst he
      rw [runL] at hr
      refine T_iload_n dX2_takeWord_2 rfl rfl ?_
      refine T_aload_n dX2_takeWord_3 rfl rfl ?_
      refine T_g3F hv3 1 (by decide) fl_X2_15 rfl dX2_takeWord_4 ?_
      refine T_icmp_ge 28 dX2_takeWord_7 (by decide) (fun h7 => ?_) (fun h7 => (absurd (by rw [hl]; exact nI_le (Nat.le_refl _) (by omega)) h7))
      rw [hr] at h28 ⊢
      exact h28
    | succ n ih =>
      intro e he hse hr
      rw [runL] at hr
      refine T_iload_n dX2_takeWord_2 rfl rfl ?_
      refine T_aload_n dX2_takeWord_3 rfl rfl ?_
      refine T_g3F hv3 1 (by decide) fl_X2_15 rfl dX2_takeWord_4 ?_
      refine T_icmp_ge 28 dX2_takeWord_7 (by decide) (fun h7 => (absurd (hl ▸ h7) (nI_ge (show e < len by omega) (by omega)))) (fun h7 => ?_)
      refine T_aload_n dX2_takeWord_10 rfl rfl ?_
      refine T_g3F hv3 0 (by decide) fl_X2_9 rfl dX2_takeWord_11 ?_
      refine T_iload_n dX2_takeWord_14 rfl rfl ?_
      refine T_caldF (hv3 _ (by decide)) rfl (Nat.le_of_ble_eq_true rfl) _ (by omega) rfl dX2_takeWord_15 ?_
      refine T_si k_X2_isSmallLetter ml_X2_73 sm_yX2_isSmallLetter ini_RX2 co_yX2_isSmallLetter de_X2_isSmallLetter (by decide) (by decide) rfl (Nat.le_of_ble_eq_true rfl) dX2_takeWord_16 ?_
      refine T_if_eq 28 dX2_takeWord_19 (by decide) (fun h19 => ?_) (fun h19 => ?_)
      · rw [if_neg (b01_0 h19)] at hr
        rw [hr] at h28 ⊢
        exact h28
      · first | refine T_iincN3 dX2_takeWord_22 rfl (by decide) ?_ | refine T_iinc3 dX2_takeWord_22 rfl rfl (by decide) ?_
        refine T_goto 2 dX2_takeWord_25 (by decide) ?_
        rw [if_pos (b01_1 h19)] at hr
        exact ih (e + 1) (by omega) (by omega) hr
  refine T_iload_n dX2_takeWord_0 rfl rfl ?_
  refine T_istore3 dX2_takeWord_1 rfl (by decide) ?_
  exact hlp (len - s) s (by omega) (Nat.le_refl _) rfl
set_option maxHeartbeats 4000000 in
set_option maxRecDepth 100000 in
theorem k_X2_takeFigures {X : Cx} {l : Launch} {σ0 : Hp} {t : Rg} {f s len : Nat} (hv3 : Lv X 3 0) (hl : t 0 1 = nI len) (hl8 : len ≤ 80) (hf : f < 81) (hs : s < len) : Con X l yX2_takeFigures cX2_takeFigures 7 (some .int) 1 [.ref (adr X 3 0 0), .int (nI f), .int (nI s)] (setR σ0 3 0 t) (Ex (some (.int (nI (runF (t 1) (len - s) s)))) (setR σ0 3 0 (up2 (up2 t 2 f (fK (t 1) s (runF (t 1) (len - s) s))) 4 f (valF (t 1) s ((runF (t 1) (len - s) s) - s))))) := by
  refine Con_of [some (.ref (adr X 3 0 0)), some (.int (nI f)), some (.int (nI s)), none, none, none, none] (by decide) rfl (Nat.le_of_ble_eq_true rfl) ?_
  have hE := runF_le (t 1) (len - s) s
  have p1 : nI 2 < nI ((runF (t 1) (len - s) s) - s) → (2 < (runF (t 1) (len - s) s) - s ∨ (1 < (runF (t 1) (len - s) s) - s ∧ t 1 s = nI 48)) := fun h => Or.inl (Classical.byContradiction fun q => nI_nlt (by omega) (by omega) h)
  have p2 : ¬ nI ((runF (t 1) (len - s) s) - s) ≤ nI 1 → t 1 s = nI 48 → (2 < (runF (t 1) (len - s) s) - s ∨ (1 < (runF (t 1) (len - s) s) - s ∧ t 1 s = nI 48)) := fun h h2 => Or.inr ⟨Classical.byContradiction fun q => h (nI_le (by omega) (by omega)), h2⟩
  have n1 : ¬ nI 2 < nI ((runF (t 1) (len - s) s) - s) → nI ((runF (t 1) (len - s) s) - s) ≤ nI 1 → ¬ (2 < (runF (t 1) (len - s) s) - s ∨ (1 < (runF (t 1) (len - s) s) - s ∧ t 1 s = nI 48)) := fun h h2 q => by
    rcases q with q | q
    · exact h (nI_lt q (by omega))
    · exact absurd h2 (nI_ge q.1 (by omega))
  have n2 : ¬ nI 2 < nI ((runF (t 1) (len - s) s) - s) → ¬ t 1 s = nI 48 → ¬ (2 < (runF (t 1) (len - s) s) - s ∨ (1 < (runF (t 1) (len - s) s) - s ∧ t 1 s = nI 48)) := fun h h2 q => by
    rcases q with q | q
    · exact h (nI_lt q (by omega))
    · exact h2 q.2
  have h48 : T X l yX2_takeFigures cX2_takeFigures 7 (some .int) 1 48 [some (.ref (adr X 3 0 0)), some (.int (nI f)), some (.int (nI s)), some (.int (nI (runF (t 1) (len - s) s))), some (.int (valF (t 1) s ((runF (t 1) (len - s) s) - s))), none, none] [] (setR σ0 3 0 t) (Ex (some (.int (nI (runF (t 1) (len - s) s)))) (setR σ0 3 0 (up2 (up2 t 2 f (fK (t 1) s (runF (t 1) (len - s) s))) 4 f (valF (t 1) s ((runF (t 1) (len - s) s) - s))))) := by
    refine T_iload_n dX2_takeFigures_48 rfl rfl ?_
    refine T_iload_n dX2_takeFigures_49 rfl rfl ?_
    refine T_isub dX2_takeFigures_50 ?_
    rw [pk_sub hE.1]
    refine T_istore5 dX2_takeFigures_51 rfl (by decide) ?_
    refine T_iload dX2_takeFigures_53 rfl ?_
    refine T_iconst (v := nI 1) dX2_takeFigures_55 rfl ?_
    refine T_icmp_le 74 dX2_takeFigures_56 (by decide) (fun h56 => ?_) (fun h56 => ?_)
    · refine T_iconst (v := nI 0) dX2_takeFigures_74 rfl ?_
      refine T_istore6 dX2_takeFigures_75 rfl (by decide) ?_
      refine T_aload_n dX2_takeFigures_77 rfl rfl ?_
      refine T_g3F hv3 2 (by decide) fl_X2_19 rfl dX2_takeFigures_78 ?_
      refine T_iload_n dX2_takeFigures_81 rfl rfl ?_
      refine T_iload dX2_takeFigures_82 rfl ?_
      refine T_iconst (v := nI 2) dX2_takeFigures_84 rfl ?_
      refine T_icmp_gt 93 dX2_takeFigures_85 (by decide) (fun h85 => ?_) (fun h85 => ?_)
      · refine T_iconst (v := nI 5) dX2_takeFigures_93 rfl ?_
        refine T_goto 98 dX2_takeFigures_94 (by decide) ?_
        refine T_iastF (hv3 _ (by decide)) (fun _ => rfl) (Nat.le_of_ble_eq_true rfl) _ (by omega) rfl dX2_takeFigures_98 ?_
        refine T_aload_n dX2_takeFigures_99 rfl rfl ?_
        refine T_g3F hv3 4 (by decide) fl_X2_26 rfl dX2_takeFigures_100 ?_
        refine T_iload_n dX2_takeFigures_103 rfl rfl ?_
        refine T_iload dX2_takeFigures_104 rfl ?_
        refine T_iastF (hv3 _ (by decide)) (fun _ => rfl) (Nat.le_of_ble_eq_true rfl) _ (by omega) rfl dX2_takeFigures_106 ?_
        refine T_iload_n dX2_takeFigures_107 rfl rfl ?_
        refine T_iret rfl dX2_takeFigures_108 ?_
        first | (exact (nope1 h90).elim) | (exact (nope0 h90).elim) | (refine ⟨rfl, ?_⟩; rw [fK, if_pos (p1 h85)]; done) | (refine ⟨rfl, ?_⟩; rw [fK, if_pos (p2 h56 h67)]; done) | (refine ⟨rfl, ?_⟩; rw [fK, if_neg (n1 h85 h56)]; done) | (refine ⟨rfl, ?_⟩; rw [fK, if_neg (n2 h85 h67)]; done)
      · refine T_iload dX2_takeFigures_88 rfl ?_
        refine T_if_eq 97 dX2_takeFigures_90 (by decide) (fun h90 => ?_) (fun h90 => ?_)
        · refine T_iconst (v := nI 3) dX2_takeFigures_97 rfl ?_
          refine T_iastF (hv3 _ (by decide)) (fun _ => rfl) (Nat.le_of_ble_eq_true rfl) _ (by omega) rfl dX2_takeFigures_98 ?_
          refine T_aload_n dX2_takeFigures_99 rfl rfl ?_
          refine T_g3F hv3 4 (by decide) fl_X2_26 rfl dX2_takeFigures_100 ?_
          refine T_iload_n dX2_takeFigures_103 rfl rfl ?_
          refine T_iload dX2_takeFigures_104 rfl ?_
          refine T_iastF (hv3 _ (by decide)) (fun _ => rfl) (Nat.le_of_ble_eq_true rfl) _ (by omega) rfl dX2_takeFigures_106 ?_
          refine T_iload_n dX2_takeFigures_107 rfl rfl ?_
          refine T_iret rfl dX2_takeFigures_108 ?_
          first | (exact (nope1 h90).elim) | (exact (nope0 h90).elim) | (refine ⟨rfl, ?_⟩; rw [fK, if_pos (p1 h85)]; done) | (refine ⟨rfl, ?_⟩; rw [fK, if_pos (p2 h56 h67)]; done) | (refine ⟨rfl, ?_⟩; rw [fK, if_neg (n1 h85 h56)]; done) | (refine ⟨rfl, ?_⟩; rw [fK, if_neg (n2 h85 h67)]; done)
        · refine T_iconst (v := nI 5) dX2_takeFigures_93 rfl ?_
          refine T_goto 98 dX2_takeFigures_94 (by decide) ?_
          refine T_iastF (hv3 _ (by decide)) (fun _ => rfl) (Nat.le_of_ble_eq_true rfl) _ (by omega) rfl dX2_takeFigures_98 ?_
          refine T_aload_n dX2_takeFigures_99 rfl rfl ?_
          refine T_g3F hv3 4 (by decide) fl_X2_26 rfl dX2_takeFigures_100 ?_
          refine T_iload_n dX2_takeFigures_103 rfl rfl ?_
          refine T_iload dX2_takeFigures_104 rfl ?_
          refine T_iastF (hv3 _ (by decide)) (fun _ => rfl) (Nat.le_of_ble_eq_true rfl) _ (by omega) rfl dX2_takeFigures_106 ?_
          refine T_iload_n dX2_takeFigures_107 rfl rfl ?_
          refine T_iret rfl dX2_takeFigures_108 ?_
          first | (exact (nope1 h90).elim) | (exact (nope0 h90).elim) | (refine ⟨rfl, ?_⟩; rw [fK, if_pos (p1 h85)]; done) | (refine ⟨rfl, ?_⟩; rw [fK, if_pos (p2 h56 h67)]; done) | (refine ⟨rfl, ?_⟩; rw [fK, if_neg (n1 h85 h56)]; done) | (refine ⟨rfl, ?_⟩; rw [fK, if_neg (n2 h85 h67)]; done)
    · refine T_aload_n dX2_takeFigures_59 rfl rfl ?_
      refine T_g3F hv3 0 (by decide) fl_X2_9 rfl dX2_takeFigures_60 ?_
      refine T_iload_n dX2_takeFigures_63 rfl rfl ?_
      refine T_caldF (hv3 _ (by decide)) rfl (Nat.le_of_ble_eq_true rfl) _ (by omega) rfl dX2_takeFigures_64 ?_
      refine T_bipush (v := nI 48) dX2_takeFigures_65 (by decide) ?_
      refine T_icmp_ne 74 dX2_takeFigures_67 (by decide) (fun h67 => ?_) (fun h67 => ?_)
      · refine T_iconst (v := nI 0) dX2_takeFigures_74 rfl ?_
        refine T_istore6 dX2_takeFigures_75 rfl (by decide) ?_
        refine T_aload_n dX2_takeFigures_77 rfl rfl ?_
        refine T_g3F hv3 2 (by decide) fl_X2_19 rfl dX2_takeFigures_78 ?_
        refine T_iload_n dX2_takeFigures_81 rfl rfl ?_
        refine T_iload dX2_takeFigures_82 rfl ?_
        refine T_iconst (v := nI 2) dX2_takeFigures_84 rfl ?_
        refine T_icmp_gt 93 dX2_takeFigures_85 (by decide) (fun h85 => ?_) (fun h85 => ?_)
        · refine T_iconst (v := nI 5) dX2_takeFigures_93 rfl ?_
          refine T_goto 98 dX2_takeFigures_94 (by decide) ?_
          refine T_iastF (hv3 _ (by decide)) (fun _ => rfl) (Nat.le_of_ble_eq_true rfl) _ (by omega) rfl dX2_takeFigures_98 ?_
          refine T_aload_n dX2_takeFigures_99 rfl rfl ?_
          refine T_g3F hv3 4 (by decide) fl_X2_26 rfl dX2_takeFigures_100 ?_
          refine T_iload_n dX2_takeFigures_103 rfl rfl ?_
          refine T_iload dX2_takeFigures_104 rfl ?_
          refine T_iastF (hv3 _ (by decide)) (fun _ => rfl) (Nat.le_of_ble_eq_true rfl) _ (by omega) rfl dX2_takeFigures_106 ?_
          refine T_iload_n dX2_takeFigures_107 rfl rfl ?_
          refine T_iret rfl dX2_takeFigures_108 ?_
          first | (exact (nope1 h90).elim) | (exact (nope0 h90).elim) | (refine ⟨rfl, ?_⟩; rw [fK, if_pos (p1 h85)]; done) | (refine ⟨rfl, ?_⟩; rw [fK, if_pos (p2 h56 h67)]; done) | (refine ⟨rfl, ?_⟩; rw [fK, if_neg (n1 h85 h56)]; done) | (refine ⟨rfl, ?_⟩; rw [fK, if_neg (n2 h85 h67)]; done)
        · refine T_iload dX2_takeFigures_88 rfl ?_
          refine T_if_eq 97 dX2_takeFigures_90 (by decide) (fun h90 => ?_) (fun h90 => ?_)
          · refine T_iconst (v := nI 3) dX2_takeFigures_97 rfl ?_
            refine T_iastF (hv3 _ (by decide)) (fun _ => rfl) (Nat.le_of_ble_eq_true rfl) _ (by omega) rfl dX2_takeFigures_98 ?_
            refine T_aload_n dX2_takeFigures_99 rfl rfl ?_
            refine T_g3F hv3 4 (by decide) fl_X2_26 rfl dX2_takeFigures_100 ?_
            refine T_iload_n dX2_takeFigures_103 rfl rfl ?_
            refine T_iload dX2_takeFigures_104 rfl ?_
            refine T_iastF (hv3 _ (by decide)) (fun _ => rfl) (Nat.le_of_ble_eq_true rfl) _ (by omega) rfl dX2_takeFigures_106 ?_
            refine T_iload_n dX2_takeFigures_107 rfl rfl ?_
            refine T_iret rfl dX2_takeFigures_108 ?_
            first | (exact (nope1 h90).elim) | (exact (nope0 h90).elim) | (refine ⟨rfl, ?_⟩; rw [fK, if_pos (p1 h85)]; done) | (refine ⟨rfl, ?_⟩; rw [fK, if_pos (p2 h56 h67)]; done) | (refine ⟨rfl, ?_⟩; rw [fK, if_neg (n1 h85 h56)]; done) | (refine ⟨rfl, ?_⟩; rw [fK, if_neg (n2 h85 h67)]; done)
          · refine T_iconst (v := nI 5) dX2_takeFigures_93 rfl ?_
            refine T_goto 98 dX2_takeFigures_94 (by decide) ?_
            refine T_iastF (hv3 _ (by decide)) (fun _ => rfl) (Nat.le_of_ble_eq_true rfl) _ (by omega) rfl dX2_takeFigures_98 ?_
            refine T_aload_n dX2_takeFigures_99 rfl rfl ?_
            refine T_g3F hv3 4 (by decide) fl_X2_26 rfl dX2_takeFigures_100 ?_
            refine T_iload_n dX2_takeFigures_103 rfl rfl ?_
            refine T_iload dX2_takeFigures_104 rfl ?_
            refine T_iastF (hv3 _ (by decide)) (fun _ => rfl) (Nat.le_of_ble_eq_true rfl) _ (by omega) rfl dX2_takeFigures_106 ?_
            refine T_iload_n dX2_takeFigures_107 rfl rfl ?_
            refine T_iret rfl dX2_takeFigures_108 ?_
            first | (exact (nope1 h90).elim) | (exact (nope0 h90).elim) | (refine ⟨rfl, ?_⟩; rw [fK, if_pos (p1 h85)]; done) | (refine ⟨rfl, ?_⟩; rw [fK, if_pos (p2 h56 h67)]; done) | (refine ⟨rfl, ?_⟩; rw [fK, if_neg (n1 h85 h56)]; done) | (refine ⟨rfl, ?_⟩; rw [fK, if_neg (n2 h85 h67)]; done)
      · refine T_iconst (v := nI 1) dX2_takeFigures_70 rfl ?_
        refine T_goto 75 dX2_takeFigures_71 (by decide) ?_
        refine T_istore6 dX2_takeFigures_75 rfl (by decide) ?_
        refine T_aload_n dX2_takeFigures_77 rfl rfl ?_
        refine T_g3F hv3 2 (by decide) fl_X2_19 rfl dX2_takeFigures_78 ?_
        refine T_iload_n dX2_takeFigures_81 rfl rfl ?_
        refine T_iload dX2_takeFigures_82 rfl ?_
        refine T_iconst (v := nI 2) dX2_takeFigures_84 rfl ?_
        refine T_icmp_gt 93 dX2_takeFigures_85 (by decide) (fun h85 => ?_) (fun h85 => ?_)
        · refine T_iconst (v := nI 5) dX2_takeFigures_93 rfl ?_
          refine T_goto 98 dX2_takeFigures_94 (by decide) ?_
          refine T_iastF (hv3 _ (by decide)) (fun _ => rfl) (Nat.le_of_ble_eq_true rfl) _ (by omega) rfl dX2_takeFigures_98 ?_
          refine T_aload_n dX2_takeFigures_99 rfl rfl ?_
          refine T_g3F hv3 4 (by decide) fl_X2_26 rfl dX2_takeFigures_100 ?_
          refine T_iload_n dX2_takeFigures_103 rfl rfl ?_
          refine T_iload dX2_takeFigures_104 rfl ?_
          refine T_iastF (hv3 _ (by decide)) (fun _ => rfl) (Nat.le_of_ble_eq_true rfl) _ (by omega) rfl dX2_takeFigures_106 ?_
          refine T_iload_n dX2_takeFigures_107 rfl rfl ?_
          refine T_iret rfl dX2_takeFigures_108 ?_
          first | (exact (nope1 h90).elim) | (exact (nope0 h90).elim) | (refine ⟨rfl, ?_⟩; rw [fK, if_pos (p1 h85)]; done) | (refine ⟨rfl, ?_⟩; rw [fK, if_pos (p2 h56 h67)]; done) | (refine ⟨rfl, ?_⟩; rw [fK, if_neg (n1 h85 h56)]; done) | (refine ⟨rfl, ?_⟩; rw [fK, if_neg (n2 h85 h67)]; done)
        · refine T_iload dX2_takeFigures_88 rfl ?_
          refine T_if_eq 97 dX2_takeFigures_90 (by decide) (fun h90 => ?_) (fun h90 => ?_)
          · refine T_iconst (v := nI 3) dX2_takeFigures_97 rfl ?_
            refine T_iastF (hv3 _ (by decide)) (fun _ => rfl) (Nat.le_of_ble_eq_true rfl) _ (by omega) rfl dX2_takeFigures_98 ?_
            refine T_aload_n dX2_takeFigures_99 rfl rfl ?_
            refine T_g3F hv3 4 (by decide) fl_X2_26 rfl dX2_takeFigures_100 ?_
            refine T_iload_n dX2_takeFigures_103 rfl rfl ?_
            refine T_iload dX2_takeFigures_104 rfl ?_
            refine T_iastF (hv3 _ (by decide)) (fun _ => rfl) (Nat.le_of_ble_eq_true rfl) _ (by omega) rfl dX2_takeFigures_106 ?_
            refine T_iload_n dX2_takeFigures_107 rfl rfl ?_
            refine T_iret rfl dX2_takeFigures_108 ?_
            first | (exact (nope1 h90).elim) | (exact (nope0 h90).elim) | (refine ⟨rfl, ?_⟩; rw [fK, if_pos (p1 h85)]; done) | (refine ⟨rfl, ?_⟩; rw [fK, if_pos (p2 h56 h67)]; done) | (refine ⟨rfl, ?_⟩; rw [fK, if_neg (n1 h85 h56)]; done) | (refine ⟨rfl, ?_⟩; rw [fK, if_neg (n2 h85 h67)]; done)
          · refine T_iconst (v := nI 5) dX2_takeFigures_93 rfl ?_
            refine T_goto 98 dX2_takeFigures_94 (by decide) ?_
            refine T_iastF (hv3 _ (by decide)) (fun _ => rfl) (Nat.le_of_ble_eq_true rfl) _ (by omega) rfl dX2_takeFigures_98 ?_
            refine T_aload_n dX2_takeFigures_99 rfl rfl ?_
            refine T_g3F hv3 4 (by decide) fl_X2_26 rfl dX2_takeFigures_100 ?_
            refine T_iload_n dX2_takeFigures_103 rfl rfl ?_
            refine T_iload dX2_takeFigures_104 rfl ?_
            refine T_iastF (hv3 _ (by decide)) (fun _ => rfl) (Nat.le_of_ble_eq_true rfl) _ (by omega) rfl dX2_takeFigures_106 ?_
            refine T_iload_n dX2_takeFigures_107 rfl rfl ?_
            refine T_iret rfl dX2_takeFigures_108 ?_
            first | (exact (nope1 h90).elim) | (exact (nope0 h90).elim) | (refine ⟨rfl, ?_⟩; rw [fK, if_pos (p1 h85)]; done) | (refine ⟨rfl, ?_⟩; rw [fK, if_pos (p2 h56 h67)]; done) | (refine ⟨rfl, ?_⟩; rw [fK, if_neg (n1 h85 h56)]; done) | (refine ⟨rfl, ?_⟩; rw [fK, if_neg (n2 h85 h67)]; done)
  have hlp : ∀ n e : Nat, e + n = len → s ≤ e → (runF (t 1) (len - s) s) = runF (t 1) n e → T X l yX2_takeFigures cX2_takeFigures 7 (some .int) 1 5 [some (.ref (adr X 3 0 0)), some (.int (nI f)), some (.int (nI s)), some (.int (nI e)), some (.int (valF (t 1) s (e - s))), none, none] [] (setR σ0 3 0 t) (Ex (some (.int (nI (runF (t 1) (len - s) s)))) (setR σ0 3 0 (up2 (up2 t 2 f (fK (t 1) s (runF (t 1) (len - s) s))) 4 f (valF (t 1) s ((runF (t 1) (len - s) s) - s))))) := by
    intro n
    induction n with
    | zero =>
      intro e he hse hr
      have he : e = len := by omega
      subst he
      rw [runF] at hr
      refine T_iload_n dX2_takeFigures_5 rfl rfl ?_
      refine T_aload_n dX2_takeFigures_6 rfl rfl ?_
      refine T_g3F hv3 1 (by decide) fl_X2_15 rfl dX2_takeFigures_7 ?_
      refine T_icmp_ge 48 dX2_takeFigures_10 (by decide) (fun h10 => ?_) (fun h10 => (absurd (by rw [hl]; exact nI_le (Nat.le_refl _) (by omega)) h10))
      rw [hr] at h48 ⊢
      exact h48
    | succ n ih =>
      intro e he hse hr
      rw [runF] at hr
      refine T_iload_n dX2_takeFigures_5 rfl rfl ?_
      refine T_aload_n dX2_takeFigures_6 rfl rfl ?_
      refine T_g3F hv3 1 (by decide) fl_X2_15 rfl dX2_takeFigures_7 ?_
      refine T_icmp_ge 48 dX2_takeFigures_10 (by decide) (fun h10 => (absurd (hl ▸ h10) (nI_ge (show e < len by omega) (by omega)))) (fun h10 => ?_)
      refine T_aload_n dX2_takeFigures_13 rfl rfl ?_
      refine T_g3F hv3 0 (by decide) fl_X2_9 rfl dX2_takeFigures_14 ?_
      refine T_iload_n dX2_takeFigures_17 rfl rfl ?_
      refine T_caldF (hv3 _ (by decide)) rfl (Nat.le_of_ble_eq_true rfl) _ (by omega) rfl dX2_takeFigures_18 ?_
      refine T_si k_X2_isFigure ml_X2_80 sm_yX2_isFigure ini_RX2 co_yX2_isFigure de_X2_isFigure (by decide) (by decide) rfl (Nat.le_of_ble_eq_true rfl) dX2_takeFigures_19 ?_
      refine T_if_eq 48 dX2_takeFigures_22 (by decide) (fun h22 => ?_) (fun h22 => ?_)
      · rw [if_neg (b01_0 h22)] at hr
        rw [hr] at h48 ⊢
        exact h48
      · refine T_iload dX2_takeFigures_25 rfl ?_
        refine T_bipush (v := nI 10) dX2_takeFigures_27 (by decide) ?_
        refine T_imul dX2_takeFigures_29 ?_
        refine T_aload_n dX2_takeFigures_30 rfl rfl ?_
        refine T_g3F hv3 0 (by decide) fl_X2_9 rfl dX2_takeFigures_31 ?_
        refine T_iload_n dX2_takeFigures_34 rfl rfl ?_
        refine T_caldF (hv3 _ (by decide)) rfl (Nat.le_of_ble_eq_true rfl) _ (by omega) rfl dX2_takeFigures_35 ?_
        refine T_bipush (v := nI 48) dX2_takeFigures_36 (by decide) ?_
        refine T_isub dX2_takeFigures_38 ?_
        refine T_iadd dX2_takeFigures_39 ?_
        refine T_istore4 dX2_takeFigures_40 rfl (by decide) ?_
        first | refine T_iincN3 dX2_takeFigures_42 rfl (by decide) ?_ | refine T_iinc3 dX2_takeFigures_42 rfl rfl (by decide) ?_
        refine T_goto 5 dX2_takeFigures_45 (by decide) ?_
        rw [if_pos (b01_1 h22)] at hr
        have h9 := ih (e + 1) (by omega) (by omega) hr
        rw [show e + 1 - s = (e - s) + 1 by omega, valF, show s + (e - s) = e by omega] at h9
        exact h9
  refine T_iload_n dX2_takeFigures_0 rfl rfl ?_
  refine T_istore3 dX2_takeFigures_1 rfl (by decide) ?_
  refine T_iconst (v := nI 0) dX2_takeFigures_2 rfl ?_
  refine T_istore4 dX2_takeFigures_3 rfl (by decide) ?_
  have h9 := hlp (len - s) s (by omega) (Nat.le_refl _) rfl
  rw [Nat.sub_self] at h9
  exact h9
set_option maxHeartbeats 4000000 in
set_option maxRecDepth 100000 in
theorem k_X2_takeToken {X : Cx} {l : Launch} {σ0 : Hp} {t : Rg} {f s len : Nat} (hv3 : Lv X 3 0) (hl : t 0 1 = nI len) (hl8 : len ≤ 80) (hf : f < 81) (hs : s < len) : Con X l yX2_takeToken cX2_takeToken 3 (some .int) 6 [.ref (adr X 3 0 0), .int (nI f), .int (nI s)] (setR σ0 3 0 t) (Ex (some (.int (nI (tkE (t 1) len s)))) (setR σ0 3 0 (tkU t len f s))) := by
  refine Con_of [some (.ref (adr X 3 0 0)), some (.int (nI f)), some (.int (nI s))] (by decide) rfl (Nat.le_of_ble_eq_true rfl) ?_
  refine T_aload_n dX2_takeToken_0 rfl rfl ?_
  refine T_g3F hv3 0 (by decide) fl_X2_9 rfl dX2_takeToken_1 ?_
  refine T_iload_n dX2_takeToken_4 rfl rfl ?_
  refine T_caldF (hv3 _ (by decide)) rfl (Nat.le_of_ble_eq_true rfl) _ (by omega) rfl dX2_takeToken_5 ?_
  refine T_si k_X2_isSmallLetter ml_X2_73 sm_yX2_isSmallLetter ini_RX2 co_yX2_isSmallLetter de_X2_isSmallLetter (by decide) (by decide) rfl (Nat.le_of_ble_eq_true rfl) dX2_takeToken_6 ?_
  refine T_if_eq 19 dX2_takeToken_9 (by decide) (fun h9 => ?_) (fun h9 => ?_)
  · refine T_aload_n dX2_takeToken_19 rfl rfl ?_
    refine T_g3F hv3 0 (by decide) fl_X2_9 rfl dX2_takeToken_20 ?_
    refine T_iload_n dX2_takeToken_23 rfl rfl ?_
    refine T_caldF (hv3 _ (by decide)) rfl (Nat.le_of_ble_eq_true rfl) _ (by omega) rfl dX2_takeToken_24 ?_
    refine T_si k_X2_isFigure ml_X2_80 sm_yX2_isFigure ini_RX2 co_yX2_isFigure de_X2_isFigure (by decide) (by decide) rfl (Nat.le_of_ble_eq_true rfl) dX2_takeToken_25 ?_
    refine T_if_eq 38 dX2_takeToken_28 (by decide) (fun h28 => ?_) (fun h28 => ?_)
    · refine T_aload_n dX2_takeToken_38 rfl rfl ?_
      refine T_g3F hv3 2 (by decide) fl_X2_19 rfl dX2_takeToken_39 ?_
      refine T_iload_n dX2_takeToken_42 rfl rfl ?_
      refine T_aload_n dX2_takeToken_43 rfl rfl ?_
      refine T_g3F hv3 0 (by decide) fl_X2_9 rfl dX2_takeToken_44 ?_
      refine T_iload_n dX2_takeToken_47 rfl rfl ?_
      refine T_caldF (hv3 _ (by decide)) rfl (Nat.le_of_ble_eq_true rfl) _ (by omega) rfl dX2_takeToken_48 ?_
      refine T_bipush (v := nI 59) dX2_takeToken_49 (by decide) ?_
      refine T_icmp_ne 58 dX2_takeToken_51 (by decide) (fun h51 => ?_) (fun h51 => ?_)
      · refine T_iconst (v := nI 5) dX2_takeToken_58 rfl ?_
        refine T_iastF (hv3 _ (by decide)) (fun _ => rfl) (Nat.le_of_ble_eq_true rfl) _ (by omega) rfl dX2_takeToken_59 ?_
        refine T_iload_n dX2_takeToken_60 rfl rfl ?_
        refine T_iconst (v := nI 1) dX2_takeToken_61 rfl ?_
        first | refine T_iaddN dX2_takeToken_62 ?_ | refine T_iadd dX2_takeToken_62 ?_
        refine T_iret rfl dX2_takeToken_63 ?_
        first | (have a := b01_0 h9; have b := b01_0 h28; refine ⟨?_, ?_⟩; rw [tkE, if_neg a, if_neg b]; rw [tkU, if_neg a, if_neg b, tkK, if_neg a, if_neg b, if_pos h51]) | (have a := b01_0 h9; have b := b01_0 h28; refine ⟨?_, ?_⟩; rw [tkE, if_neg a, if_neg b]; rw [tkU, if_neg a, if_neg b, tkK, if_neg a, if_neg b, if_neg h51])
      · refine T_iconst (v := nI 4) dX2_takeToken_54 rfl ?_
        refine T_goto 59 dX2_takeToken_55 (by decide) ?_
        refine T_iastF (hv3 _ (by decide)) (fun _ => rfl) (Nat.le_of_ble_eq_true rfl) _ (by omega) rfl dX2_takeToken_59 ?_
        refine T_iload_n dX2_takeToken_60 rfl rfl ?_
        refine T_iconst (v := nI 1) dX2_takeToken_61 rfl ?_
        first | refine T_iaddN dX2_takeToken_62 ?_ | refine T_iadd dX2_takeToken_62 ?_
        refine T_iret rfl dX2_takeToken_63 ?_
        first | (have a := b01_0 h9; have b := b01_0 h28; refine ⟨?_, ?_⟩; rw [tkE, if_neg a, if_neg b]; rw [tkU, if_neg a, if_neg b, tkK, if_neg a, if_neg b, if_pos h51]) | (have a := b01_0 h9; have b := b01_0 h28; refine ⟨?_, ?_⟩; rw [tkE, if_neg a, if_neg b]; rw [tkU, if_neg a, if_neg b, tkK, if_neg a, if_neg b, if_neg h51])
    · refine T_aload_n dX2_takeToken_31 rfl rfl ?_
      refine T_iload_n dX2_takeToken_32 rfl rfl ?_
      refine T_iload_n dX2_takeToken_33 rfl rfl ?_
      refine T_vi (Rc_of (hv3 0 (by decide)) rfl rfl) (k_X2_takeFigures hv3 hl hl8 hf hs) ml_X2_83 im_yX2_takeFigures se_RX2_yX2_takeFigures ini_RX2 co_yX2_takeFigures rfl de_X2_takeFigures (by decide) (by decide) rfl (Nat.le_of_ble_eq_true rfl) dX2_takeToken_34 ?_
      refine T_iret rfl dX2_takeToken_37 ?_
      have a := b01_0 h9
      have b := b01_1 h28
      exact ⟨by rw [tkE, if_neg a, if_pos b], by rw [tkU, if_neg a, if_pos b, tkK, if_neg a, if_pos b, tkE, if_neg a, if_pos b]⟩
  · refine T_aload_n dX2_takeToken_12 rfl rfl ?_
    refine T_iload_n dX2_takeToken_13 rfl rfl ?_
    refine T_iload_n dX2_takeToken_14 rfl rfl ?_
    refine T_vi (Rc_of (hv3 0 (by decide)) rfl rfl) (k_X2_takeWord hv3 hl hl8 hf hs) ml_X2_77 im_yX2_takeWord se_RX2_yX2_takeWord ini_RX2 co_yX2_takeWord rfl de_X2_takeWord (by decide) (by decide) rfl (Nat.le_of_ble_eq_true rfl) dX2_takeToken_15 ?_
    refine T_iret rfl dX2_takeToken_18 ?_
    have b := b01_1 h9
    exact ⟨by rw [tkE, if_pos b], by rw [tkU, if_pos b, tkK, if_pos b, tkE, if_pos b]⟩
theorem tkE_gt (g : Nat → Int32) {len s : Nat} (hs : s < len) : s < tkE g len s ∧ tkE g len s ≤ len := by
  obtain ⟨m, hm⟩ : ∃ m, len - s = m + 1 := ⟨len - s - 1, by omega⟩
  unfold tkE
  split
  · rename_i h
    rw [hm, runL, if_pos h]
    have := runL_le g m (s + 1)
    omega
  · split
    · rename_i h
      rw [hm, runF, if_pos h]
      have := runF_le g m (s + 1)
      omega
    · omega
theorem tkU_0 (t : Rg) (len f s : Nat) : tkU t len f s 0 = t 0 := by
  unfold tkU
  split
  · rfl
  · split <;> rfl
theorem tkU_1 (t : Rg) (len f s : Nat) : tkU t len f s 1 = t 1 := by
  unfold tkU
  split
  · rfl
  · split <;> rfl
set_option maxHeartbeats 4000000 in
set_option maxRecDepth 100000 in
theorem k_X2_findTokens {X : Cx} {l : Launch} {σ0 : Hp} {t : Rg} {len : Nat} (hv3 : Lv X 3 0) (hl : t 0 1 = nI len) (hl8 : len ≤ 80) : Con X l yX2_findTokens cX2_findTokens 3 none 7 [.ref (adr X 3 0 0)] (setR σ0 3 0 t) (Ex none (setR σ0 3 0 (finS t len))) := by
  refine Con_of [some (.ref (adr X 3 0 0)), none, none] (by decide) rfl (Nat.le_of_ble_eq_true rfl) ?_
  obtain ⟨R, hR⟩ : ∃ R, R = ftS len (len + 1) t 0 0 := ⟨_, rfl⟩
  have hlp : ∀ (n : Nat) (t2 : Rg) (f p : Nat), len - p < n → f ≤ p → p ≤ len → t2 0 = t 0 → t2 1 = t 1 → R = ftS len n t2 f p → T X l yX2_findTokens cX2_findTokens 3 none 7 4 [some (.ref (adr X 3 0 0)), some (.int (nI f)), some (.int (nI p))] [] (setR σ0 3 0 t2) (Ex none (setR σ0 3 0 (finS t len))) := by
    intro n
    induction n with
    | zero => intro t2 f p h1; omega
    | succ n ih =>
      intro t2 f p h1 h2 h3 h4 h5 hr
      have hl2 : t2 0 1 = nI len := by rw [h4]; exact hl
      rw [ftS] at hr
      refine T_iload_n dX2_findTokens_4 rfl rfl ?_
      refine T_aload_n dX2_findTokens_5 rfl rfl ?_
      refine T_g3F hv3 1 (by decide) fl_X2_15 rfl dX2_findTokens_6 ?_
      refine T_icmp_ge 55 dX2_findTokens_9 (by decide) (fun h9 => ?_) (fun h9 => ?_)
      · have hp : ¬ p < len := fun z => absurd (hl2 ▸ h9) (nI_ge z (by omega))
        rw [if_neg hp] at hr
        refine T_aload_n dX2_findTokens_55 rfl rfl ?_
        refine T_g3F hv3 2 (by decide) fl_X2_19 rfl dX2_findTokens_56 ?_
        refine T_iload_n dX2_findTokens_59 rfl rfl ?_
        refine T_iconst (v := nI 0) dX2_findTokens_60 rfl ?_
        refine T_iastF (hv3 _ (by decide)) (fun _ => rfl) (Nat.le_of_ble_eq_true rfl) _ (by omega) rfl dX2_findTokens_61 ?_
        refine T_aload_n dX2_findTokens_62 rfl rfl ?_
        refine T_g3F hv3 3 (by decide) fl_X2_23 rfl dX2_findTokens_63 ?_
        refine T_iload_n dX2_findTokens_66 rfl rfl ?_
        refine T_aload_n dX2_findTokens_67 rfl rfl ?_
        refine T_g3F hv3 1 (by decide) fl_X2_15 rfl dX2_findTokens_68 ?_
        refine T_iastF (hv3 _ (by decide)) (fun _ => rfl) (Nat.le_of_ble_eq_true rfl) _ (by omega) rfl dX2_findTokens_71 ?_
        refine T_vret rfl dX2_findTokens_72 ?_
        refine ⟨rfl, ?_⟩
        rw [finS, ← hR, hr]
        show setR σ0 3 0 (up2 (up2 t2 2 f (nI 0)) 3 f (t2 0 1)) = _
        rw [hl2]
      · have hp : p < len := Classical.byContradiction fun z => h9 (by rw [hl2]; exact nI_le (by omega) (by omega))
        rw [if_pos hp] at hr
        refine T_iload_n dX2_findTokens_12 rfl rfl ?_
        refine T_bipush (v := nI 80) dX2_findTokens_13 (by decide) ?_
        refine T_icmp_ge 55 dX2_findTokens_15 (by decide) (fun h15 => (absurd h15 (nI_ge (show f < 80 by omega) (by omega)))) (fun h15 => ?_)
        refine T_aload_n dX2_findTokens_18 rfl rfl ?_
        refine T_g3F hv3 0 (by decide) fl_X2_9 rfl dX2_findTokens_19 ?_
        refine T_iload_n dX2_findTokens_22 rfl rfl ?_
        refine T_caldF (hv3 _ (by decide)) rfl (Nat.le_of_ble_eq_true rfl) _ (by omega) rfl dX2_findTokens_23 ?_
        refine T_bipush (v := nI 32) dX2_findTokens_24 (by decide) ?_
        refine T_icmp_ne 35 dX2_findTokens_26 (by decide) (fun h26 => ?_) (fun h26 => ?_)
        · rw [if_neg (show ¬ t2 1 p = nI 32 from h26)] at hr
          have hg := tkE_gt (t2 1) hp
          refine T_aload_n dX2_findTokens_35 rfl rfl ?_
          refine T_g3F hv3 3 (by decide) fl_X2_23 rfl dX2_findTokens_36 ?_
          refine T_iload_n dX2_findTokens_39 rfl rfl ?_
          refine T_iload_n dX2_findTokens_40 rfl rfl ?_
          refine T_iastF (hv3 _ (by decide)) (fun _ => rfl) (Nat.le_of_ble_eq_true rfl) _ (by omega) rfl dX2_findTokens_41 ?_
          refine T_aload_n dX2_findTokens_42 rfl rfl ?_
          refine T_iload_n dX2_findTokens_43 rfl rfl ?_
          refine T_iload_n dX2_findTokens_44 rfl rfl ?_
          refine T_vi (Rc_of (hv3 0 (by decide)) rfl rfl) (k_X2_takeToken hv3 (show up2 t2 3 f (nI p) 0 1 = nI len from hl2) hl8 (by omega) hp) ml_X2_69 im_yX2_takeToken se_RX2_yX2_takeToken ini_RX2 co_yX2_takeToken rfl de_X2_takeToken (by decide) (by decide) rfl (Nat.le_of_ble_eq_true rfl) dX2_findTokens_45 ?_
          refine T_istore2 dX2_findTokens_48 rfl (by decide) ?_
          first | refine T_iincN1 dX2_findTokens_49 rfl (by decide) ?_ | refine T_iinc1 dX2_findTokens_49 rfl rfl (by decide) ?_
          refine T_goto 4 dX2_findTokens_52 (by decide) ?_
          first | (exact ih t2 f (p + 1) (by omega) (by omega) (by omega) h4 h5 hr) | (exact ih (tkU (up2 t2 3 f (nI p)) len f p) (f + 1) (tkE (t2 1) len p) (by omega) (by omega) (by omega) ((tkU_0 _ _ _ _).trans h4) ((tkU_1 _ _ _ _).trans h5) hr)
        · rw [if_pos (show t2 1 p = nI 32 from h26)] at hr
          first | refine T_iincN2 dX2_findTokens_29 rfl (by decide) ?_ | refine T_iinc2 dX2_findTokens_29 rfl rfl (by decide) ?_
          refine T_goto 4 dX2_findTokens_32 (by decide) ?_
          first | (exact ih t2 f (p + 1) (by omega) (by omega) (by omega) h4 h5 hr) | (exact ih (tkU (up2 t2 3 f (nI p)) len f p) (f + 1) (tkE (t2 1) len p) (by omega) (by omega) (by omega) ((tkU_0 _ _ _ _).trans h4) ((tkU_1 _ _ _ _).trans h5) hr)
  refine T_iconst (v := nI 0) dX2_findTokens_0 rfl ?_
  refine T_istore1 dX2_findTokens_1 rfl (by decide) ?_
  refine T_iconst (v := nI 0) dX2_findTokens_2 rfl ?_
  refine T_istore2 dX2_findTokens_3 rfl (by decide) ?_
  exact hlp (len + 1) t 0 0 (by omega) (Nat.le_refl _) (Nat.zero_le _) rfl rfl hR
