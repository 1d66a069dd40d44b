set_option maxHeartbeats 4000000 in
set_option maxRecDepth 100000 in
theorem k_X4_which {X : Cx} {l : Launch} {σ0 : Hp} {h : Rg} {m s : Nat → Int32} {fn : Nat} (hv4 : Lv X 4 0) (hw : Wm m) (hfn : h 0 15 = nI fn) (hfn6 : fn ≤ 6) : Con X l yX4_which cX4_which 1 (some .int) 6 [.ref (adr X 4 0 0)] (setR σ0 4 0 (up1 (up1 h 3 s) 1 m)) (ExS (caM m (h 8) (h 9) fn (mC m)) σ0 h m) := by
  refine Con_of [some (.ref (adr X 4 0 0))] (by decide) rfl (Nat.le_of_ble_eq_true rfl) ?_
  refine T_aload_n dX4_which_0 rfl rfl ?_
  refine T_vs (Rc_of (hv4 0 (by decide)) rfl rfl) (k_X4_candidates hv4 hw hfn hfn6) ml_X4_182 im_yX4_candidates se_RX4_yX4_candidates ini_RX4 co_yX4_candidates rfl de_X4_candidates (by decide) (by decide) rfl (Nat.le_of_ble_eq_true rfl) dX4_which_1 (fun s => ?_)
  refine T_iret rfl dX4_which_4 ?_
  exact ⟨rfl, s, rfl⟩
theorem dn1 {A B : Prop} (h : ¬ A) : ¬ (A ∧ B) := fun q => h q.1
theorem dn2 {A B : Prop} (h : ¬ B) : ¬ (A ∧ B) := fun q => h q.2
set_option maxHeartbeats 4000000 in
set_option maxRecDepth 100000 in
theorem k_X4_largestGroup {X : Cx} {l : Launch} {σ0 : Hp} {h : Rg} {m s : Nat → Int32} {sf w : Int32} (hv4 : Lv X 4 0) (hw : Wm m) : Con X l yX4_largestGroup cX4_largestGroup 8 (some .int) 5 [.ref (adr X 4 0 0), .int sf, .int w] (setR σ0 4 0 (up1 (up1 h 3 s) 1 m)) (ExS (lgM m sf w (mC m) (mC m)) σ0 h m) := by
  refine Con_of [some (.ref (adr X 4 0 0)), some (.int sf), some (.int w), none, none, none, none, none] (by decide) rfl (Nat.le_of_ble_eq_true rfl) ?_
  have hW := hw.2.2.2.2
  have hC := hw.2.2.1
  have hin : ∀ cc : Nat, cc < mC m → (∀ (s : Nat → Int32) (v6 v7 : Option Value), T X l yX4_largestGroup cX4_largestGroup 8 (some .int) 5 98 [some (.ref (adr X 4 0 0)), some (.int sf), some (.int w), some (.int (lgM m sf w (mC m) cc)), some (.int (nI cc)), some (.int (nI (giM m sf w cc (mC m)))), v6, v7] [] (setR σ0 4 0 (up1 (up1 h 3 s) 1 m)) (ExS (lgM m sf w (mC m) (mC m)) σ0 h m)) → ∀ (e k : Nat) (s : Nat → Int32) (v7 : Option Value), k + e = mC m → T X l yX4_largestGroup cX4_largestGroup 8 (some .int) 5 22 [some (.ref (adr X 4 0 0)), some (.int sf), some (.int w), some (.int (lgM m sf w (mC m) cc)), some (.int (nI cc)), some (.int (nI (giM m sf w cc k))), some (.int (nI k)), v7] [] (setR σ0 4 0 (up1 (up1 h 3 s) 1 m)) (ExS (lgM m sf w (mC m) (mC m)) σ0 h m) := by
    intro cc hcc hout e
    induction e with
    | zero =>
      intro k s v7 hk
      have hk : k = mC m := by omega
      subst hk
      refine T_iload dX4_largestGroup_22 rfl ?_
      refine T_aload_n dX4_largestGroup_24 rfl rfl ?_
      refine T_g4F hv4 0 (by decide) fl_X4_7 rfl dX4_largestGroup_25 ?_
      refine T_iconst (v := nI 0) dX4_largestGroup_28 rfl ?_
      refine T_ialM hv4 _ (by omega) rfl dX4_largestGroup_29 ?_
      refine T_icmp_ge 98 dX4_largestGroup_30 (by decide) (fun h30 => ?_) (fun h30 => (absurd (by rw [hw.1]; exact nI_le (Nat.le_refl _) (by omega)) h30))
      exact hout s _ _
    | succ e ih =>
      intro k s v7 hk
      have hnx := fun s v7 => ih (k + 1) s v7 (by omega)
      have hk : k < mC m := by omega
      rw [giM] at hnx
      refine T_iload dX4_largestGroup_22 rfl ?_
      refine T_aload_n dX4_largestGroup_24 rfl rfl ?_
      refine T_g4F hv4 0 (by decide) fl_X4_7 rfl dX4_largestGroup_25 ?_
      refine T_iconst (v := nI 0) dX4_largestGroup_28 rfl ?_
      refine T_ialM hv4 _ (by omega) rfl dX4_largestGroup_29 ?_
      refine T_icmp_ge 98 dX4_largestGroup_30 (by decide) (fun h30 => (absurd (hw.1 ▸ h30) (nI_ge hk (by omega)))) (fun h30 => ?_)
      refine T_iload_n dX4_largestGroup_33 rfl rfl ?_
      refine T_iload dX4_largestGroup_34 rfl ?_
      refine T_ishr dX4_largestGroup_36 ?_
      refine T_iconst (v := nI 1) dX4_largestGroup_37 rfl ?_
      refine T_iand dX4_largestGroup_38 ?_
      refine T_iconst (v := nI 1) dX4_largestGroup_39 rfl ?_
      refine T_icmp_ne 57 dX4_largestGroup_40 (by decide) (fun h40 => ?_) (fun h40 => ?_)
      · refine T_iconst (v := nI 0) dX4_largestGroup_57 rfl ?_
        refine T_istore7 dX4_largestGroup_58 rfl (by decide) ?_
        refine T_iload dX4_largestGroup_60 rfl ?_
        refine T_iload dX4_largestGroup_62 rfl ?_
        refine T_if_eq 88 dX4_largestGroup_64 (by decide) (fun h64 => ?_) (fun h64 => ?_)
        · refine T_iconst (v := nI 0) dX4_largestGroup_88 rfl ?_
          first | refine T_iaddN dX4_largestGroup_89 ?_ | refine T_iadd dX4_largestGroup_89 ?_
          refine T_istore5 dX4_largestGroup_90 rfl (by decide) ?_
          first | refine T_iincN6 dX4_largestGroup_92 rfl (by decide) ?_ | refine T_iinc6 dX4_largestGroup_92 rfl rfl (by decide) ?_
          refine T_goto 22 dX4_largestGroup_95 (by decide) ?_
          first | (exact (nope1 h64).elim) | (exact (nope0 h64).elim) | (rw [if_neg (dn1 h40)] at hnx; exact hnx s _) | (rw [if_neg (dn2 h50)] at hnx; exact hnx s _) | (rw [if_pos (And.intro h40 h50), if_pos h81] at hnx; exact hnx s _) | (rw [if_pos (And.intro h40 h50), if_neg h81] at hnx; exact hnx s _)
        · refine T_aload_n dX4_largestGroup_67 rfl rfl ?_
          refine T_iload dX4_largestGroup_68 rfl ?_
          refine T_iload_n dX4_largestGroup_70 rfl rfl ?_
          refine T_vs (Rc_of (hv4 0 (by decide)) rfl rfl) (k_X4_property hv4 hw (by omega)) ml_X4_179 im_yX4_property se_RX4_yX4_property ini_RX4 co_yX4_property rfl de_X4_property (by decide) (by decide) rfl (Nat.le_of_ble_eq_true rfl) dX4_largestGroup_71 (fun s => ?_)
          refine T_aload_n dX4_largestGroup_74 rfl rfl ?_
          refine T_iload dX4_largestGroup_75 rfl ?_
          refine T_iload_n dX4_largestGroup_77 rfl rfl ?_
          refine T_vs (Rc_of (hv4 0 (by decide)) rfl rfl) (k_X4_property hv4 hw (by omega)) ml_X4_179 im_yX4_property se_RX4_yX4_property ini_RX4 co_yX4_property rfl de_X4_property (by decide) (by decide) rfl (Nat.le_of_ble_eq_true rfl) dX4_largestGroup_78 (fun s => ?_)
          refine T_icmp_ne 88 dX4_largestGroup_81 (by decide) (fun h81 => ?_) (fun h81 => ?_)
          · refine T_iconst (v := nI 0) dX4_largestGroup_88 rfl ?_
            first | refine T_iaddN dX4_largestGroup_89 ?_ | refine T_iadd dX4_largestGroup_89 ?_
            refine T_istore5 dX4_largestGroup_90 rfl (by decide) ?_
            first | refine T_iincN6 dX4_largestGroup_92 rfl (by decide) ?_ | refine T_iinc6 dX4_largestGroup_92 rfl rfl (by decide) ?_
            refine T_goto 22 dX4_largestGroup_95 (by decide) ?_
            first | (exact (nope1 h64).elim) | (exact (nope0 h64).elim) | (rw [if_neg (dn1 h40)] at hnx; exact hnx s _) | (rw [if_neg (dn2 h50)] at hnx; exact hnx s _) | (rw [if_pos (And.intro h40 h50), if_pos h81] at hnx; exact hnx s _) | (rw [if_pos (And.intro h40 h50), if_neg h81] at hnx; exact hnx s _)
          · refine T_iconst (v := nI 1) dX4_largestGroup_84 rfl ?_
            refine T_goto 89 dX4_largestGroup_85 (by decide) ?_
            first | refine T_iaddN dX4_largestGroup_89 ?_ | refine T_iadd dX4_largestGroup_89 ?_
            refine T_istore5 dX4_largestGroup_90 rfl (by decide) ?_
            first | refine T_iincN6 dX4_largestGroup_92 rfl (by decide) ?_ | refine T_iinc6 dX4_largestGroup_92 rfl rfl (by decide) ?_
            refine T_goto 22 dX4_largestGroup_95 (by decide) ?_
            first | (exact (nope1 h64).elim) | (exact (nope0 h64).elim) | (rw [if_neg (dn1 h40)] at hnx; exact hnx s _) | (rw [if_neg (dn2 h50)] at hnx; exact hnx s _) | (rw [if_pos (And.intro h40 h50), if_pos h81] at hnx; exact hnx s _) | (rw [if_pos (And.intro h40 h50), if_neg h81] at hnx; exact hnx s _)
      · refine T_iload_n dX4_largestGroup_43 rfl rfl ?_
        refine T_iload dX4_largestGroup_44 rfl ?_
        refine T_ishr dX4_largestGroup_46 ?_
        refine T_iconst (v := nI 1) dX4_largestGroup_47 rfl ?_
        refine T_iand dX4_largestGroup_48 ?_
        refine T_iconst (v := nI 1) dX4_largestGroup_49 rfl ?_
        refine T_icmp_ne 57 dX4_largestGroup_50 (by decide) (fun h50 => ?_) (fun h50 => ?_)
        · refine T_iconst (v := nI 0) dX4_largestGroup_57 rfl ?_
          refine T_istore7 dX4_largestGroup_58 rfl (by decide) ?_
          refine T_iload dX4_largestGroup_60 rfl ?_
          refine T_iload dX4_largestGroup_62 rfl ?_
          refine T_if_eq 88 dX4_largestGroup_64 (by decide) (fun h64 => ?_) (fun h64 => ?_)
          · refine T_iconst (v := nI 0) dX4_largestGroup_88 rfl ?_
            first | refine T_iaddN dX4_largestGroup_89 ?_ | refine T_iadd dX4_largestGroup_89 ?_
            refine T_istore5 dX4_largestGroup_90 rfl (by decide) ?_
            first | refine T_iincN6 dX4_largestGroup_92 rfl (by decide) ?_ | refine T_iinc6 dX4_largestGroup_92 rfl rfl (by decide) ?_
            refine T_goto 22 dX4_largestGroup_95 (by decide) ?_
            first | (exact (nope1 h64).elim) | (exact (nope0 h64).elim) | (rw [if_neg (dn1 h40)] at hnx; exact hnx s _) | (rw [if_neg (dn2 h50)] at hnx; exact hnx s _) | (rw [if_pos (And.intro h40 h50), if_pos h81] at hnx; exact hnx s _) | (rw [if_pos (And.intro h40 h50), if_neg h81] at hnx; exact hnx s _)
          · refine T_aload_n dX4_largestGroup_67 rfl rfl ?_
            refine T_iload dX4_largestGroup_68 rfl ?_
            refine T_iload_n dX4_largestGroup_70 rfl rfl ?_
            refine T_vs (Rc_of (hv4 0 (by decide)) rfl rfl) (k_X4_property hv4 hw (by omega)) ml_X4_179 im_yX4_property se_RX4_yX4_property ini_RX4 co_yX4_property rfl de_X4_property (by decide) (by decide) rfl (Nat.le_of_ble_eq_true rfl) dX4_largestGroup_71 (fun s => ?_)
            refine T_aload_n dX4_largestGroup_74 rfl rfl ?_
            refine T_iload dX4_largestGroup_75 rfl ?_
            refine T_iload_n dX4_largestGroup_77 rfl rfl ?_
            refine T_vs (Rc_of (hv4 0 (by decide)) rfl rfl) (k_X4_property hv4 hw (by omega)) ml_X4_179 im_yX4_property se_RX4_yX4_property ini_RX4 co_yX4_property rfl de_X4_property (by decide) (by decide) rfl (Nat.le_of_ble_eq_true rfl) dX4_largestGroup_78 (fun s => ?_)
            refine T_icmp_ne 88 dX4_largestGroup_81 (by decide) (fun h81 => ?_) (fun h81 => ?_)
            · refine T_iconst (v := nI 0) dX4_largestGroup_88 rfl ?_
              first | refine T_iaddN dX4_largestGroup_89 ?_ | refine T_iadd dX4_largestGroup_89 ?_
              refine T_istore5 dX4_largestGroup_90 rfl (by decide) ?_
              first | refine T_iincN6 dX4_largestGroup_92 rfl (by decide) ?_ | refine T_iinc6 dX4_largestGroup_92 rfl rfl (by decide) ?_
              refine T_goto 22 dX4_largestGroup_95 (by decide) ?_
              first | (exact (nope1 h64).elim) | (exact (nope0 h64).elim) | (rw [if_neg (dn1 h40)] at hnx; exact hnx s _) | (rw [if_neg (dn2 h50)] at hnx; exact hnx s _) | (rw [if_pos (And.intro h40 h50), if_pos h81] at hnx; exact hnx s _) | (rw [if_pos (And.intro h40 h50), if_neg h81] at hnx; exact hnx s _)
            · refine T_iconst (v := nI 1) dX4_largestGroup_84 rfl ?_
              refine T_goto 89 dX4_largestGroup_85 (by decide) ?_
              first | refine T_iaddN dX4_largestGroup_89 ?_ | refine T_iadd dX4_largestGroup_89 ?_
              refine T_istore5 dX4_largestGroup_90 rfl (by decide) ?_
              first | refine T_iincN6 dX4_largestGroup_92 rfl (by decide) ?_ | refine T_iinc6 dX4_largestGroup_92 rfl rfl (by decide) ?_
              refine T_goto 22 dX4_largestGroup_95 (by decide) ?_
              first | (exact (nope1 h64).elim) | (exact (nope0 h64).elim) | (rw [if_neg (dn1 h40)] at hnx; exact hnx s _) | (rw [if_neg (dn2 h50)] at hnx; exact hnx s _) | (rw [if_pos (And.intro h40 h50), if_pos h81] at hnx; exact hnx s _) | (rw [if_pos (And.intro h40 h50), if_neg h81] at hnx; exact hnx s _)
        · refine T_iconst (v := nI 1) dX4_largestGroup_53 rfl ?_
          refine T_goto 58 dX4_largestGroup_54 (by decide) ?_
          refine T_istore7 dX4_largestGroup_58 rfl (by decide) ?_
          refine T_iload dX4_largestGroup_60 rfl ?_
          refine T_iload dX4_largestGroup_62 rfl ?_
          refine T_if_eq 88 dX4_largestGroup_64 (by decide) (fun h64 => ?_) (fun h64 => ?_)
          · refine T_iconst (v := nI 0) dX4_largestGroup_88 rfl ?_
            first | refine T_iaddN dX4_largestGroup_89 ?_ | refine T_iadd dX4_largestGroup_89 ?_
            refine T_istore5 dX4_largestGroup_90 rfl (by decide) ?_
            first | refine T_iincN6 dX4_largestGroup_92 rfl (by decide) ?_ | refine T_iinc6 dX4_largestGroup_92 rfl rfl (by decide) ?_
            refine T_goto 22 dX4_largestGroup_95 (by decide) ?_
            first | (exact (nope1 h64).elim) | (exact (nope0 h64).elim) | (rw [if_neg (dn1 h40)] at hnx; exact hnx s _) | (rw [if_neg (dn2 h50)] at hnx; exact hnx s _) | (rw [if_pos (And.intro h40 h50), if_pos h81] at hnx; exact hnx s _) | (rw [if_pos (And.intro h40 h50), if_neg h81] at hnx; exact hnx s _)
          · refine T_aload_n dX4_largestGroup_67 rfl rfl ?_
            refine T_iload dX4_largestGroup_68 rfl ?_
            refine T_iload_n dX4_largestGroup_70 rfl rfl ?_
            refine T_vs (Rc_of (hv4 0 (by decide)) rfl rfl) (k_X4_property hv4 hw (by omega)) ml_X4_179 im_yX4_property se_RX4_yX4_property ini_RX4 co_yX4_property rfl de_X4_property (by decide) (by decide) rfl (Nat.le_of_ble_eq_true rfl) dX4_largestGroup_71 (fun s => ?_)
            refine T_aload_n dX4_largestGroup_74 rfl rfl ?_
            refine T_iload dX4_largestGroup_75 rfl ?_
            refine T_iload_n dX4_largestGroup_77 rfl rfl ?_
            refine T_vs (Rc_of (hv4 0 (by decide)) rfl rfl) (k_X4_property hv4 hw (by omega)) ml_X4_179 im_yX4_property se_RX4_yX4_property ini_RX4 co_yX4_property rfl de_X4_property (by decide) (by decide) rfl (Nat.le_of_ble_eq_true rfl) dX4_largestGroup_78 (fun s => ?_)
            refine T_icmp_ne 88 dX4_largestGroup_81 (by decide) (fun h81 => ?_) (fun h81 => ?_)
            · refine T_iconst (v := nI 0) dX4_largestGroup_88 rfl ?_
              first | refine T_iaddN dX4_largestGroup_89 ?_ | refine T_iadd dX4_largestGroup_89 ?_
              refine T_istore5 dX4_largestGroup_90 rfl (by decide) ?_
              first | refine T_iincN6 dX4_largestGroup_92 rfl (by decide) ?_ | refine T_iinc6 dX4_largestGroup_92 rfl rfl (by decide) ?_
              refine T_goto 22 dX4_largestGroup_95 (by decide) ?_
              first | (exact (nope1 h64).elim) | (exact (nope0 h64).elim) | (rw [if_neg (dn1 h40)] at hnx; exact hnx s _) | (rw [if_neg (dn2 h50)] at hnx; exact hnx s _) | (rw [if_pos (And.intro h40 h50), if_pos h81] at hnx; exact hnx s _) | (rw [if_pos (And.intro h40 h50), if_neg h81] at hnx; exact hnx s _)
            · refine T_iconst (v := nI 1) dX4_largestGroup_84 rfl ?_
              refine T_goto 89 dX4_largestGroup_85 (by decide) ?_
              first | refine T_iaddN dX4_largestGroup_89 ?_ | refine T_iadd dX4_largestGroup_89 ?_
              refine T_istore5 dX4_largestGroup_90 rfl (by decide) ?_
              first | refine T_iincN6 dX4_largestGroup_92 rfl (by decide) ?_ | refine T_iinc6 dX4_largestGroup_92 rfl rfl (by decide) ?_
              refine T_goto 22 dX4_largestGroup_95 (by decide) ?_
              first | (exact (nope1 h64).elim) | (exact (nope0 h64).elim) | (rw [if_neg (dn1 h40)] at hnx; exact hnx s _) | (rw [if_neg (dn2 h50)] at hnx; exact hnx s _) | (rw [if_pos (And.intro h40 h50), if_pos h81] at hnx; exact hnx s _) | (rw [if_pos (And.intro h40 h50), if_neg h81] at hnx; exact hnx s _)
  have hlp : ∀ (e c : Nat) (s : Nat → Int32) (v5 v6 v7 : Option Value), c + e = mC m → T X l yX4_largestGroup cX4_largestGroup 8 (some .int) 5 5 [some (.ref (adr X 4 0 0)), some (.int sf), some (.int w), some (.int (lgM m sf w (mC m) c)), some (.int (nI c)), v5, v6, v7] [] (setR σ0 4 0 (up1 (up1 h 3 s) 1 m)) (ExS (lgM m sf w (mC m) (mC m)) σ0 h m) := by
    intro e
    induction e with
    | zero =>
      intro k s v5 v6 v7 hk
      have hk : k = mC m := by omega
      subst hk
      refine T_iload dX4_largestGroup_5 rfl ?_
      refine T_aload_n dX4_largestGroup_7 rfl rfl ?_
      refine T_g4F hv4 0 (by decide) fl_X4_7 rfl dX4_largestGroup_8 ?_
      refine T_iconst (v := nI 0) dX4_largestGroup_11 rfl ?_
      refine T_ialM hv4 _ (by omega) rfl dX4_largestGroup_12 ?_
      refine T_icmp_ge 117 dX4_largestGroup_13 (by decide) (fun h13 => ?_) (fun h13 => (absurd (by rw [hw.1]; exact nI_le (Nat.le_refl _) (by omega)) h13))
      refine T_iload_n dX4_largestGroup_117 rfl rfl ?_
      refine T_iret rfl dX4_largestGroup_118 ?_
      exact ⟨rfl, s, rfl⟩
    | succ e ih =>
      intro k s v5 v6 v7 hk
      have hnx := fun s v5 v6 v7 => ih (k + 1) s v5 v6 v7 (by omega)
      have hk : k < mC m := by omega
      rw [lgM] at hnx
      refine T_iload dX4_largestGroup_5 rfl ?_
      refine T_aload_n dX4_largestGroup_7 rfl rfl ?_
      refine T_g4F hv4 0 (by decide) fl_X4_7 rfl dX4_largestGroup_8 ?_
      refine T_iconst (v := nI 0) dX4_largestGroup_11 rfl ?_
      refine T_ialM hv4 _ (by omega) rfl dX4_largestGroup_12 ?_
      refine T_icmp_ge 117 dX4_largestGroup_13 (by decide) (fun h13 => (absurd (hw.1 ▸ h13) (nI_ge hk (by omega)))) (fun h13 => ?_)
      refine T_iconst (v := nI 0) dX4_largestGroup_16 rfl ?_
      refine T_istore5 dX4_largestGroup_17 rfl (by decide) ?_
      refine T_iconst (v := nI 0) dX4_largestGroup_19 rfl ?_
      refine T_istore6 dX4_largestGroup_20 rfl (by decide) ?_
      refine hin k hk (fun s v6 v7 => ?_) (mC m) 0 s _ (by omega)
      refine T_iload dX4_largestGroup_98 rfl ?_
      refine T_iload_n dX4_largestGroup_100 rfl rfl ?_
      refine T_icmp_le 109 dX4_largestGroup_101 (by decide) (fun h101 => ?_) (fun h101 => ?_)
      · refine T_iload_n dX4_largestGroup_109 rfl rfl ?_
        refine T_istore3 dX4_largestGroup_110 rfl (by decide) ?_
        first | refine T_iincN4 dX4_largestGroup_111 rfl (by decide) ?_ | refine T_iinc4 dX4_largestGroup_111 rfl rfl (by decide) ?_
        refine T_goto 5 dX4_largestGroup_114 (by decide) ?_
        first | (rw [if_pos h101] at hnx; exact hnx s _ _ _) | (rw [if_neg h101] at hnx; exact hnx s _ _ _)
      · refine T_iload dX4_largestGroup_104 rfl ?_
        refine T_goto 110 dX4_largestGroup_106 (by decide) ?_
        refine T_istore3 dX4_largestGroup_110 rfl (by decide) ?_
        first | refine T_iincN4 dX4_largestGroup_111 rfl (by decide) ?_ | refine T_iinc4 dX4_largestGroup_111 rfl rfl (by decide) ?_
        refine T_goto 5 dX4_largestGroup_114 (by decide) ?_
        first | (rw [if_pos h101] at hnx; exact hnx s _ _ _) | (rw [if_neg h101] at hnx; exact hnx s _ _ _)
  refine T_iconst (v := nI 0) dX4_largestGroup_0 rfl ?_
  refine T_istore3 dX4_largestGroup_1 rfl (by decide) ?_
  refine T_iconst (v := nI 0) dX4_largestGroup_2 rfl ?_
  refine T_istore4 dX4_largestGroup_3 rfl (by decide) ?_
  exact hlp (mC m) 0 s none none none (by omega)
theorem ilt {a b : Int32} (h : ¬ a ≤ b) (g : a ≤ b) : False := h g
set_option maxHeartbeats 4000000 in
set_option maxRecDepth 100000 in
theorem k_X4_ask {X : Cx} {l : Launch} {σ0 : Hp} {h : Rg} {m s : Nat → Int32} {fn : Nat} (hv4 : Lv X 4 0) (hw : Wm m) (hfn : h 0 15 = nI fn) (hfn6 : fn ≤ 6) : Con X l yX4_ask cX4_ask 6 (some .int) 6 [.ref (adr X 4 0 0)] (setR σ0 4 0 (up1 (up1 h 3 s) 1 m)) (ExS (akA h m fn) σ0 h m) := by
  refine Con_of [some (.ref (adr X 4 0 0)), none, none, none, none, none] (by decide) rfl (Nat.le_of_ble_eq_true rfl) ?_
  have hW := hw.2.2.2.2
  have hC := hw.2.2.1
  have hlp : nI 2 ≤ cbS (cdM h m fn) 24 → ∀ (e k : Nat) (s : Nat → Int32) (v5 : Option Value), k + e = 2 → T X l yX4_ask cX4_ask 6 (some .int) 6 28 [some (.ref (adr X 4 0 0)), some (.int (cdM h m fn)), some (.int (akM (gM h m fn) k).1), some (.int (akM (gM h m fn) k).2), some (.int (nI (k + 1))), v5] [] (setR σ0 4 0 (up1 (up1 h 3 s) 1 m)) (ExS (akA h m fn) σ0 h m) := by
    intro hb e
    induction e with
    | zero =>
      intro k s v5 hk
      have hk : k = 2 := by omega
      subst hk
      refine T_iload dX4_ask_28 rfl ?_
      refine T_iconst (v := nI 3) dX4_ask_30 rfl ?_
      refine T_icmp_ge 75 dX4_ask_31 (by decide) (fun h31 => ?_) (fun h31 => (absurd (nI_le (Nat.le_refl _) (by omega)) h31))
      refine T_iload_n dX4_ask_75 rfl rfl ?_
      refine T_iret rfl dX4_ask_76 ?_
      exact ⟨by rw [akA, if_pos hb], s, rfl⟩
    | succ e ih =>
      intro k s v5 hk
      have hnx := fun s v5 => ih (k + 1) s v5 (by omega)
      have hk : k + 1 < 3 := by omega
      rw [akM] at hnx
      refine T_iload dX4_ask_28 rfl ?_
      refine T_iconst (v := nI 3) dX4_ask_30 rfl ?_
      refine T_icmp_ge 75 dX4_ask_31 (by decide) (fun h31 => (absurd h31 (nI_ge hk (by omega)))) (fun h31 => ?_)
      refine T_aload_n dX4_ask_34 rfl rfl ?_
      refine T_iload_n dX4_ask_35 rfl rfl ?_
      refine T_iload dX4_ask_36 rfl ?_
      refine T_vs (Rc_of (hv4 0 (by decide)) rfl rfl) (k_X4_largestGroup (w := nI (k + 1)) hv4 hw) ml_X4_185 im_yX4_largestGroup se_RX4_yX4_largestGroup ini_RX4 co_yX4_largestGroup rfl de_X4_largestGroup (by decide) (by decide) rfl (Nat.le_of_ble_eq_true rfl) dX4_ask_38 (fun s => ?_)
      refine T_istore5 dX4_ask_41 rfl (by decide) ?_
      refine T_iload dX4_ask_43 rfl ?_
      refine T_iload_n dX4_ask_45 rfl rfl ?_
      refine T_icmp_ge 54 dX4_ask_46 (by decide) (fun h46 => ?_) (fun h46 => ?_)
      · refine T_iload_n dX4_ask_54 rfl rfl ?_
        refine T_istore2 dX4_ask_55 rfl (by decide) ?_
        refine T_iload dX4_ask_56 rfl ?_
        refine T_iload_n dX4_ask_58 rfl rfl ?_
        refine T_icmp_ge 67 dX4_ask_59 (by decide) (fun h59 => ?_) (fun h59 => ?_)
        · refine T_iload_n dX4_ask_67 rfl rfl ?_
          refine T_istore3 dX4_ask_68 rfl (by decide) ?_
          first | refine T_iincN4 dX4_ask_69 rfl (by decide) ?_ | refine T_iinc4 dX4_ask_69 rfl rfl (by decide) ?_
          refine T_goto 28 dX4_ask_72 (by decide) ?_
          first | (exact (ilt h46 h59).elim) | (exact (ilt h59 h46).elim) | (rw [if_pos (show (akM (gM h m fn) k).2 ≤ gM h m fn (k + 1) from h46)] at hnx; exact hnx s _) | (rw [if_neg (show ¬ (akM (gM h m fn) k).2 ≤ gM h m fn (k + 1) from h46)] at hnx; exact hnx s _)
        · refine T_iload dX4_ask_62 rfl ?_
          refine T_goto 68 dX4_ask_64 (by decide) ?_
          refine T_istore3 dX4_ask_68 rfl (by decide) ?_
          first | refine T_iincN4 dX4_ask_69 rfl (by decide) ?_ | refine T_iinc4 dX4_ask_69 rfl rfl (by decide) ?_
          refine T_goto 28 dX4_ask_72 (by decide) ?_
          first | (exact (ilt h46 h59).elim) | (exact (ilt h59 h46).elim) | (rw [if_pos (show (akM (gM h m fn) k).2 ≤ gM h m fn (k + 1) from h46)] at hnx; exact hnx s _) | (rw [if_neg (show ¬ (akM (gM h m fn) k).2 ≤ gM h m fn (k + 1) from h46)] at hnx; exact hnx s _)
      · refine T_iload dX4_ask_49 rfl ?_
        refine T_goto 55 dX4_ask_51 (by decide) ?_
        refine T_istore2 dX4_ask_55 rfl (by decide) ?_
        refine T_iload dX4_ask_56 rfl ?_
        refine T_iload_n dX4_ask_58 rfl rfl ?_
        refine T_icmp_ge 67 dX4_ask_59 (by decide) (fun h59 => ?_) (fun h59 => ?_)
        · refine T_iload_n dX4_ask_67 rfl rfl ?_
          refine T_istore3 dX4_ask_68 rfl (by decide) ?_
          first | refine T_iincN4 dX4_ask_69 rfl (by decide) ?_ | refine T_iinc4 dX4_ask_69 rfl rfl (by decide) ?_
          refine T_goto 28 dX4_ask_72 (by decide) ?_
          first | (exact (ilt h46 h59).elim) | (exact (ilt h59 h46).elim) | (rw [if_pos (show (akM (gM h m fn) k).2 ≤ gM h m fn (k + 1) from h46)] at hnx; exact hnx s _) | (rw [if_neg (show ¬ (akM (gM h m fn) k).2 ≤ gM h m fn (k + 1) from h46)] at hnx; exact hnx s _)
        · refine T_iload dX4_ask_62 rfl ?_
          refine T_goto 68 dX4_ask_64 (by decide) ?_
          refine T_istore3 dX4_ask_68 rfl (by decide) ?_
          first | refine T_iincN4 dX4_ask_69 rfl (by decide) ?_ | refine T_iinc4 dX4_ask_69 rfl rfl (by decide) ?_
          refine T_goto 28 dX4_ask_72 (by decide) ?_
          first | (exact (ilt h46 h59).elim) | (exact (ilt h59 h46).elim) | (rw [if_pos (show (akM (gM h m fn) k).2 ≤ gM h m fn (k + 1) from h46)] at hnx; exact hnx s _) | (rw [if_neg (show ¬ (akM (gM h m fn) k).2 ≤ gM h m fn (k + 1) from h46)] at hnx; exact hnx s _)
  refine T_aload_n dX4_ask_0 rfl rfl ?_
  refine T_vs (Rc_of (hv4 0 (by decide)) rfl rfl) (k_X4_candidates hv4 hw hfn hfn6) ml_X4_182 im_yX4_candidates se_RX4_yX4_candidates ini_RX4 co_yX4_candidates rfl de_X4_candidates (by decide) (by decide) rfl (Nat.le_of_ble_eq_true rfl) dX4_ask_1 (fun s => ?_)
  refine T_istore1 dX4_ask_4 rfl (by decide) ?_
  refine T_iload_n dX4_ask_5 rfl rfl ?_
  refine T_si k_X4_countBits ml_X4_139 sm_yX4_countBits ini_RX4 co_yX4_countBits de_X4_countBits (by decide) (by decide) rfl (Nat.le_of_ble_eq_true rfl) dX4_ask_6 ?_
  refine T_iconst (v := nI 2) dX4_ask_9 rfl ?_
  refine T_icmp_ge 16 dX4_ask_10 (by decide) (fun h10 => ?_) (fun h10 => ?_)
  · refine T_iconst (v := nI 0) dX4_ask_16 rfl ?_
    refine T_istore2 dX4_ask_17 rfl (by decide) ?_
    refine T_aload_n dX4_ask_18 rfl rfl ?_
    refine T_iload_n dX4_ask_19 rfl rfl ?_
    refine T_iconst (v := nI 0) dX4_ask_20 rfl ?_
    refine T_vs (Rc_of (hv4 0 (by decide)) rfl rfl) (k_X4_largestGroup (w := nI 0) hv4 hw) ml_X4_185 im_yX4_largestGroup se_RX4_yX4_largestGroup ini_RX4 co_yX4_largestGroup rfl de_X4_largestGroup (by decide) (by decide) rfl (Nat.le_of_ble_eq_true rfl) dX4_ask_21 (fun s => ?_)
    refine T_istore3 dX4_ask_24 rfl (by decide) ?_
    refine T_iconst (v := nI 1) dX4_ask_25 rfl ?_
    refine T_istore4 dX4_ask_26 rfl (by decide) ?_
    exact hlp h10 2 0 s none (by omega)
  · refine T_bipush (v := -9) dX4_ask_13 (by decide) ?_
    refine T_iret rfl dX4_ask_15 ?_
    exact ⟨by rw [akA, if_neg (show ¬ nI 2 ≤ cbS (cdM h m fn) 24 from h10)], s, rfl⟩
set_option maxHeartbeats 4000000 in
set_option maxRecDepth 100000 in
theorem k_X4_keep {X : Cx} {l : Launch} {σ0 : Hp} {h : Rg} {m : Nat → Int32} {Q : Option Value → Hp → Prop} {x : Int32} (hv4 : Lv X 4 0) (hB : ¬ (inB x (nI 0) (nI 1)) → Q (some (.int (-1))) (setR σ0 4 0 (up1 h 1 m))) (hO : ∀ j, j < 2 → x = nI j → Q (some (.int (m 1))) (setR σ0 4 0 (up1 (up2 (up1 h 5 (va_cpy m (h 5) 0 (127 * j) 127)) 6 j (nI 1)) 1 m))) : Con X l yX4_keep cX4_keep 2 (some .int) 1 [.ref (adr X 4 0 0), .int x] (setR σ0 4 0 (up1 h 1 m)) Q := by
  refine Con_of [some (.ref (adr X 4 0 0)), some (.int x)] (by decide) rfl (Nat.le_of_ble_eq_true rfl) ?_
  have h11 : ∀ j, j < 2 → x = nI j → T X l yX4_keep cX4_keep 2 (some .int) 1 11 [some (.ref (adr X 4 0 0)), some (.int (nI j))] [] (setR σ0 4 0 (up1 h 1 m)) Q := by
    intro j hj hxj
    have hq := hO j hj hxj
    have hj5 : 127 * j + 127 ≤ 254 := by omega
    refine T_aload_n dX4_keep_11 rfl rfl ?_
    refine T_g4F hv4 0 (by decide) fl_X4_7 rfl dX4_keep_12 ?_
    refine T_iconst (v := nI 0) dX4_keep_15 rfl ?_
    refine T_aload_n dX4_keep_16 rfl rfl ?_
    refine T_g4F hv4 5 (by decide) fl_X4_22 rfl dX4_keep_17 ?_
    refine T_bipush (v := nI 127) dX4_keep_20 (by decide) ?_
    refine T_iload_n dX4_keep_22 rfl rfl ?_
    first | refine T_imulN dX4_keep_23 ?_ | refine T_imul dX4_keep_23 ?_
    refine T_sv (k_X4_copyState (hv4 1 (by decide)) (hv4 5 (by decide)) (fun _ => rfl) (fun _ => rfl) (by decide) (by decide) hj5 (by decide) (by decide)) ml_X4_45 sm_yX4_copyState ini_RX4 co_yX4_copyState de_X4_copyState (by decide) (by decide) rfl (Nat.le_of_ble_eq_true rfl) dX4_keep_24 ?_
    refine T_aload_n dX4_keep_27 rfl rfl ?_
    refine T_g4F hv4 6 (by decide) fl_X4_25 rfl dX4_keep_28 ?_
    refine T_iload_n dX4_keep_31 rfl rfl ?_
    refine T_iconst (v := nI 1) dX4_keep_32 rfl ?_
    refine T_zastF (hv4 6 (by decide)) (fun _ => rfl) (n := 2) (by decide) j hj rfl dX4_keep_33 ?_
    rw [vpb1, show up2 (up1 (up1 h 1 m) 5 (va_cpy (up1 h 1 m 1) (up1 h 1 m 5) 0 (127 * j) 127)) 6 j (nI 1) = (up1 (up2 (up1 h 5 (va_cpy m (h 5) 0 (127 * j) 127)) 6 j (nI 1)) 1 m) from by
      funext k
      by_cases h1 : k = 1
      · subst h1; rfl
      · rw [up1_ne h1]
        by_cases h6 : k = 6
        · subst h6; rfl
        · rw [up2_ne h6, up2_ne h6]
          by_cases h5 : k = 5
          · subst h5; rfl
          · rw [up1_ne h5, up1_ne h5, up1_ne h1]]
    refine T_aload_n dX4_keep_34 rfl rfl ?_
    refine T_g4F hv4 0 (by decide) fl_X4_7 rfl dX4_keep_35 ?_
    refine T_iconst (v := nI 1) dX4_keep_38 rfl ?_
    refine T_ialM hv4 _ (by omega) rfl dX4_keep_39 ?_
    refine T_iret rfl dX4_keep_40 ?_
    exact hq
  refine T_iload_n dX4_keep_0 rfl rfl ?_
  refine T_iconst (v := nI 0) dX4_keep_1 rfl ?_
  refine T_iconst (v := nI 1) dX4_keep_2 rfl ?_
  refine T_si k_X4_in ml_X4_63 sm_yX4_in ini_RX4 co_yX4_in de_X4_in (by decide) (by decide) rfl (Nat.le_of_ble_eq_true rfl) dX4_keep_3 ?_
  refine T_if_ne 11 dX4_keep_6 (by decide) (fun h6 => ?_) (fun h6 => ?_)
  · obtain ⟨j, -, hj, hxj⟩ := inB_i (by decide) (by decide) (b01_1 h6)
    rw [hxj]
    exact h11 j (by omega) hxj
  · refine T_iconst (v := -1) dX4_keep_9 rfl ?_
    refine T_iret rfl dX4_keep_10 ?_
    exact hB (b01_0 h6)
set_option maxHeartbeats 4000000 in
set_option maxRecDepth 100000 in
theorem k_X4_back {X : Cx} {l : Launch} {σ0 : Hp} {h : Rg} {m : Nat → Int32} {Q : Option Value → Hp → Prop} {x : Int32} (hv4 : Lv X 4 0) (hB : ¬ (inB x (nI 0) (nI 1)) → Q (some (.int (-1))) (setR σ0 4 0 (up1 h 1 m))) (hS : ∀ j, j < 2 → x = nI j → h 6 j = 0 → Q (some (.int (-2))) (setR σ0 4 0 (up1 h 1 m))) (hO : ∀ j, j < 2 → x = nI j → ¬ h 6 j = 0 → Q (some (.int (va_cpy (h 5) m (127 * j) 0 127 1))) (setR σ0 4 0 (up1 (up2 h 0 4 (nI 0)) 1 (va_cpy (h 5) m (127 * j) 0 127)))) : Con X l yX4_back cX4_back 2 (some .int) 1 [.ref (adr X 4 0 0), .int x] (setR σ0 4 0 (up1 h 1 m)) Q := by
  refine Con_of [some (.ref (adr X 4 0 0)), some (.int x)] (by decide) rfl (Nat.le_of_ble_eq_true rfl) ?_
  have h11 : ∀ j, j < 2 → x = nI j → T X l yX4_back cX4_back 2 (some .int) 1 11 [some (.ref (adr X 4 0 0)), some (.int (nI j))] [] (setR σ0 4 0 (up1 h 1 m)) Q := by
    intro j hj hxj
    have hj5 : 127 * j + 127 ≤ 254 := by omega
    refine T_aload_n dX4_back_11 rfl rfl ?_
    refine T_g4F hv4 6 (by decide) fl_X4_25 rfl dX4_back_12 ?_
    refine T_iload_n dX4_back_15 rfl rfl ?_
    refine T_zaldF (hv4 6 (by decide)) rfl (n := 2) (by decide) j hj rfl dX4_back_16 ?_
    refine T_if_ne 23 dX4_back_17 (by decide) (fun h17 => ?_) (fun h17 => ?_)
    · refine T_aload_n dX4_back_23 rfl rfl ?_
      refine T_g4F hv4 5 (by decide) fl_X4_22 rfl dX4_back_24 ?_
      refine T_bipush (v := nI 127) dX4_back_27 (by decide) ?_
      refine T_iload_n dX4_back_29 rfl rfl ?_
      first | refine T_imulN dX4_back_30 ?_ | refine T_imul dX4_back_30 ?_
      refine T_aload_n dX4_back_31 rfl rfl ?_
      refine T_g4F hv4 0 (by decide) fl_X4_7 rfl dX4_back_32 ?_
      refine T_iconst (v := nI 0) dX4_back_35 rfl ?_
      refine T_sv (k_X4_copyState (hv4 5 (by decide)) (hv4 1 (by decide)) (fun _ => rfl) (fun _ => rfl) (by decide) hj5 (by decide) (by decide) (by decide)) ml_X4_45 sm_yX4_copyState ini_RX4 co_yX4_copyState de_X4_copyState (by decide) (by decide) rfl (Nat.le_of_ble_eq_true rfl) dX4_back_36 ?_
      refine T_aload_n dX4_back_39 rfl rfl ?_
      refine T_iconst (v := nI 0) dX4_back_40 rfl ?_
      refine T_p4F hv4 4 (by decide) rfl rfl fl_X4_49 (by decide) rfl dX4_back_41 ?_
      rw [show up2 (up1 (up1 h 1 m) 1 (va_cpy (up1 h 1 m 5) (up1 h 1 m 1) (127 * j) 0 127)) 0 4 (nI 0) = (up1 (up2 h 0 4 (nI 0)) 1 (va_cpy (h 5) m (127 * j) 0 127)) from by
        funext k
        by_cases h1 : k = 1
        · subst h1; rfl
        · rw [up1_ne h1]
          by_cases h0 : k = 0
          · subst h0; rfl
          · rw [up2_ne h0, up2_ne h0, up1_ne h1, up1_ne h1]]
      refine T_aload_n dX4_back_44 rfl rfl ?_
      refine T_g4F hv4 0 (by decide) fl_X4_7 rfl dX4_back_45 ?_
      refine T_iconst (v := nI 1) dX4_back_48 rfl ?_
      refine T_ialM hv4 _ (by omega) rfl dX4_back_49 ?_
      refine T_iret rfl dX4_back_50 ?_
      exact hO j hj hxj h17
    · refine T_bipush (v := -2) dX4_back_20 (by decide) ?_
      refine T_iret rfl dX4_back_22 ?_
      exact hS j hj hxj h17
  refine T_iload_n dX4_back_0 rfl rfl ?_
  refine T_iconst (v := nI 0) dX4_back_1 rfl ?_
  refine T_iconst (v := nI 1) dX4_back_2 rfl ?_
  refine T_si k_X4_in ml_X4_63 sm_yX4_in ini_RX4 co_yX4_in de_X4_in (by decide) (by decide) rfl (Nat.le_of_ble_eq_true rfl) dX4_back_3 ?_
  refine T_if_ne 11 dX4_back_6 (by decide) (fun h6 => ?_) (fun h6 => ?_)
  · obtain ⟨j, -, hj, hxj⟩ := inB_i (by decide) (by decide) (b01_1 h6)
    rw [hxj]
    exact h11 j (by omega) hxj
  · refine T_iconst (v := -1) dX4_back_9 rfl ?_
    refine T_iret rfl dX4_back_10 ?_
    exact hB (b01_0 h6)
set_option maxHeartbeats 4000000 in
set_option maxRecDepth 100000 in
theorem k_X4_fullCopies {X : Cx} {l : Launch} {σ0 : Hp} {h : Rg} {m : Nat → Int32} (hv4 : Lv X 4 0) (hw : Wm m) : Con X l yX4_fullCopies cX4_fullCopies 3 (some .int) 0 [.ref (adr X 4 0 0)] (setR σ0 4 0 (up1 h 1 m)) (Ex (some (.int (fuM m (mC m)))) (setR σ0 4 0 (up1 h 1 m))) := by
  refine Con_of [some (.ref (adr X 4 0 0)), none, none] (by decide) rfl (Nat.le_of_ble_eq_true rfl) ?_
  have hW := hw.2.2.2.2
  have hC := hw.2.2.1
  have hlp : ∀ (n k : Nat), k + n = mC m → T X l yX4_fullCopies cX4_fullCopies 3 (some .int) 0 4 [some (.ref (adr X 4 0 0)), some (.int (fuM m k)), some (.int (nI k))] [] (setR σ0 4 0 (up1 h 1 m)) (Ex (some (.int (fuM m (mC m)))) (setR σ0 4 0 (up1 h 1 m))) := by
    intro n
    induction n with
    | zero =>
      intro k hk
      have hk : k = mC m := by omega
      subst hk
      refine T_iload_n dX4_fullCopies_4 rfl rfl ?_
      refine T_aload_n dX4_fullCopies_5 rfl rfl ?_
      refine T_g4F hv4 0 (by decide) fl_X4_7 rfl dX4_fullCopies_6 ?_
      refine T_iconst (v := nI 0) dX4_fullCopies_9 rfl ?_
      refine T_ialM hv4 _ (by omega) rfl dX4_fullCopies_10 ?_
      refine T_icmp_ge 53 dX4_fullCopies_11 (by decide) (fun h11 => ?_) (fun h11 => (absurd (by rw [hw.1]; exact nI_le (Nat.le_refl _) (by omega)) h11))
      refine T_iload_n dX4_fullCopies_53 rfl rfl ?_
      refine T_iret rfl dX4_fullCopies_54 ?_
      exact ⟨rfl, rfl⟩
    | succ n ih =>
      intro k hk
      have hnx := ih (k + 1) (by omega)
      have hk : k < mC m := by omega
      refine T_iload_n dX4_fullCopies_4 rfl rfl ?_
      refine T_aload_n dX4_fullCopies_5 rfl rfl ?_
      refine T_g4F hv4 0 (by decide) fl_X4_7 rfl dX4_fullCopies_6 ?_
      refine T_iconst (v := nI 0) dX4_fullCopies_9 rfl ?_
      refine T_ialM hv4 _ (by omega) rfl dX4_fullCopies_10 ?_
      refine T_icmp_ge 53 dX4_fullCopies_11 (by decide) (fun h11 => (absurd (hw.1 ▸ h11) (nI_ge hk (by omega)))) (fun h11 => ?_)
      refine T_iload_n dX4_fullCopies_14 rfl rfl ?_
      refine T_aload_n dX4_fullCopies_15 rfl rfl ?_
      refine T_g4F hv4 0 (by decide) fl_X4_7 rfl dX4_fullCopies_16 ?_
      refine T_bipush (v := nI 87) dX4_fullCopies_19 (by decide) ?_
      refine T_iload_n dX4_fullCopies_21 rfl rfl ?_
      first | refine T_iaddN dX4_fullCopies_22 ?_ | refine T_iadd dX4_fullCopies_22 ?_
      refine T_ialM hv4 _ (by omega) rfl dX4_fullCopies_23 ?_
      refine T_iconst (v := nI 1) dX4_fullCopies_24 rfl ?_
      refine T_aload_n dX4_fullCopies_25 rfl rfl ?_
      refine T_g4F hv4 0 (by decide) fl_X4_7 rfl dX4_fullCopies_26 ?_
      refine T_bipush (v := nI 14) dX4_fullCopies_29 (by decide) ?_
      refine T_ialM hv4 _ (by omega) rfl dX4_fullCopies_31 ?_
      refine T_ishl dX4_fullCopies_32 ?_
      refine T_iconst (v := nI 1) dX4_fullCopies_33 rfl ?_
      refine T_isub dX4_fullCopies_34 ?_
      refine T_icmp_ne 44 dX4_fullCopies_35 (by decide) (fun h35 => ?_) (fun h35 => ?_)
      · refine T_iconst (v := nI 0) dX4_fullCopies_44 rfl ?_
        refine T_ior dX4_fullCopies_45 ?_
        refine T_istore1 dX4_fullCopies_46 rfl (by decide) ?_
        first | refine T_iincN2 dX4_fullCopies_47 rfl (by decide) ?_ | refine T_iinc2 dX4_fullCopies_47 rfl rfl (by decide) ?_
        refine T_goto 4 dX4_fullCopies_50 (by decide) ?_
        first | (rw [fuM, if_pos h35] at hnx; exact hnx) | (rw [fuM, if_neg h35] at hnx; rw [or_0]; exact hnx)
      · refine T_iconst (v := nI 1) dX4_fullCopies_38 rfl ?_
        refine T_iload_n dX4_fullCopies_39 rfl rfl ?_
        refine T_ishl dX4_fullCopies_40 ?_
        refine T_goto 45 dX4_fullCopies_41 (by decide) ?_
        refine T_ior dX4_fullCopies_45 ?_
        refine T_istore1 dX4_fullCopies_46 rfl (by decide) ?_
        first | refine T_iincN2 dX4_fullCopies_47 rfl (by decide) ?_ | refine T_iinc2 dX4_fullCopies_47 rfl rfl (by decide) ?_
        refine T_goto 4 dX4_fullCopies_50 (by decide) ?_
        first | (rw [fuM, if_pos h35] at hnx; exact hnx) | (rw [fuM, if_neg h35] at hnx; rw [or_0]; exact hnx)
  refine T_iconst (v := nI 0) dX4_fullCopies_0 rfl ?_
  refine T_istore1 dX4_fullCopies_1 rfl (by decide) ?_
  refine T_iconst (v := nI 0) dX4_fullCopies_2 rfl ?_
  refine T_istore2 dX4_fullCopies_3 rfl (by decide) ?_
  exact hlp (mC m) 0 (by omega)
set_option maxHeartbeats 4000000 in
set_option maxRecDepth 100000 in
theorem k_X4_count {X : Cx} {l : Launch} {σ0 : Hp} {h : Rg} {m : Nat → Int32} {Q : Option Value → Hp → Prop} {w : Int32} (hv4 : Lv X 4 0) (hw : Wm m) (hD : (∀ k, k ≤ 7 → ¬ w = nI k) → Q (some (.int (-1))) (setR σ0 4 0 (up1 h 1 m))) (hO : ∀ k, k < 8 → w = nI k → Q (some (.int (mCn h m k))) (setR σ0 4 0 (up1 h 1 m))) : Con X l yX4_count cX4_count 2 (some .int) 2 [.ref (adr X 4 0 0), .int w] (setR σ0 4 0 (up1 h 1 m)) Q := by
  refine Con_of [some (.ref (adr X 4 0 0)), some (.int w)] (by decide) rfl (Nat.le_of_ble_eq_true rfl) ?_
  have hW := hw.2.2.2.2
  have hC := hw.2.2.1
  refine T_iload_n dX4_count_0 rfl rfl ?_
  by_cases hk0 : w = nI 0
  · rw [hk0]
    refine T_tableIn (off := 47) 48 dX4_count_1 (by decide) (by decide) rfl (by decide) ?_
    refine T_aload_n dX4_count_48 rfl rfl ?_
    refine T_g4F hv4 0 (by decide) fl_X4_7 rfl dX4_count_49 ?_
    refine T_iconst (v := nI 0) dX4_count_52 rfl ?_
    refine T_ialM hv4 _ (by omega) rfl dX4_count_53 ?_
    refine T_iret rfl dX4_count_54 ?_
    exact hO 0 (by decide) hk0
  by_cases hk1 : w = nI 1
  · rw [hk1]
    refine T_tableIn (off := 54) 55 dX4_count_1 (by decide) (by decide) rfl (by decide) ?_
    refine T_aload_n dX4_count_55 rfl rfl ?_
    refine T_g4F hv4 0 (by decide) fl_X4_7 rfl dX4_count_56 ?_
    refine T_iconst (v := nI 1) dX4_count_59 rfl ?_
    refine T_ialM hv4 _ (by omega) rfl dX4_count_60 ?_
    refine T_iret rfl dX4_count_61 ?_
    exact hO 1 (by decide) hk1
  by_cases hk2 : w = nI 2
  · rw [hk2]
    refine T_tableIn (off := 61) 62 dX4_count_1 (by decide) (by decide) rfl (by decide) ?_
    refine T_aload_n dX4_count_62 rfl rfl ?_
    refine T_g4F hv4 0 (by decide) fl_X4_7 rfl dX4_count_63 ?_
    refine T_bipush (v := nI 14) dX4_count_66 (by decide) ?_
    refine T_ialM hv4 _ (by omega) rfl dX4_count_68 ?_
    refine T_iret rfl dX4_count_69 ?_
    exact hO 2 (by decide) hk2
  by_cases hk3 : w = nI 3
  · rw [hk3]
    refine T_tableIn (off := 69) 70 dX4_count_1 (by decide) (by decide) rfl (by decide) ?_
    refine T_aload_n dX4_count_70 rfl rfl ?_
    refine T_iconst (v := -1) dX4_count_71 rfl ?_
    refine T_vi (Rc_of (hv4 0 (by decide)) rfl rfl) (k_X4_sumOf hv4 hw) ml_X4_129 im_yX4_sumOf se_RX4_yX4_sumOf ini_RX4 co_yX4_sumOf rfl de_X4_sumOf (by decide) (by decide) rfl (Nat.le_of_ble_eq_true rfl) dX4_count_72 ?_
    refine T_iret rfl dX4_count_75 ?_
    exact hO 3 (by decide) hk3
  by_cases hk4 : w = nI 4
  · rw [hk4]
    refine T_tableIn (off := 75) 76 dX4_count_1 (by decide) (by decide) rfl (by decide) ?_
    refine T_aload_n dX4_count_76 rfl rfl ?_
    refine T_vi (Rc_of (hv4 0 (by decide)) rfl rfl) (k_X4_fullCopies hv4 hw) ml_X4_188 im_yX4_fullCopies se_RX4_yX4_fullCopies ini_RX4 co_yX4_fullCopies rfl de_X4_fullCopies (by decide) (by decide) rfl (Nat.le_of_ble_eq_true rfl) dX4_count_77 ?_
    refine T_iret rfl dX4_count_80 ?_
    exact hO 4 (by decide) hk4
  by_cases hk5 : w = nI 5
  · rw [hk5]
    refine T_tableIn (off := 80) 81 dX4_count_1 (by decide) (by decide) rfl (by decide) ?_
    refine T_aload_n dX4_count_81 rfl rfl ?_
    refine T_g4F hv4 15 (by decide) fl_X4_176 rfl dX4_count_82 ?_
    refine T_iret rfl dX4_count_85 ?_
    exact hO 5 (by decide) hk5
  by_cases hk6 : w = nI 6
  · rw [hk6]
    refine T_tableIn (off := 85) 86 dX4_count_1 (by decide) (by decide) rfl (by decide) ?_
    refine T_aload_n dX4_count_86 rfl rfl ?_
    refine T_g4F hv4 8 (by decide) fl_X4_60 rfl dX4_count_87 ?_
    refine T_iret rfl dX4_count_90 ?_
    exact hO 6 (by decide) hk6
  by_cases hk7 : w = nI 7
  · rw [hk7]
    refine T_tableIn (off := 90) 91 dX4_count_1 (by decide) (by decide) rfl (by decide) ?_
    refine T_aload_n dX4_count_91 rfl rfl ?_
    refine T_g4F hv4 4 (by decide) fl_X4_49 rfl dX4_count_92 ?_
    refine T_iret rfl dX4_count_95 ?_
    exact hO 7 (by decide) hk7
  have hko : ∀ k, k ≤ 7 → ¬ w = nI k := by
    intro k hk
    rcases (show k = 0 ∨ k = 1 ∨ k = 2 ∨ k = 3 ∨ k = 4 ∨ k = 5 ∨ k = 6 ∨ k = 7 by omega) with rfl | rfl | rfl | rfl | rfl | rfl | rfl | rfl
    · exact hk0
    · exact hk1
    · exact hk2
    · exact hk3
    · exact hk4
    · exact hk5
    · exact hk6
    · exact hk7
  refine T_tableOut 96 dX4_count_1 (tab_out (n := 7) (by decide) hko) (by decide) ?_
  refine T_iconst (v := -1) dX4_count_96 rfl ?_
  refine T_iret rfl dX4_count_97 ?_
  exact hD hko
