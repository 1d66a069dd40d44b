theorem tcS_b (t h : Rg) (n : Nat) : (tcS t h n).1 = nI 0 ∨ (tcS t h n).1 = nI 1 := by
  unfold tcS
  split
  · split
    · exact Or.inr rfl
    · exact Or.inl rfl
  · exact Or.inl rfl
theorem tbS_b (t h : Rg) (n : Nat) : (tbS t h n).1 = nI 0 ∨ (tbS t h n).1 = nI 1 := by
  unfold tbS
  split
  · split
    · split
      · split
        · split
          · exact Or.inr rfl
          · exact Or.inl rfl
        · exact Or.inl rfl
      · exact Or.inl rfl
    · exact Or.inl rfl
  · exact Or.inl rfl
theorem nar01 {x : Int32} (h : x = nI 0 ∨ x = nI 1) : narrow .boolean (.int x) = .int x := by
  rcases h with h | h <;> rw [h] <;> decide
theorem newS_W (h : Rg) : Wf (newS h) ∧ nC (newS h) = 3 ∧ nW (newS h) = 0 := by
  have e0 : newS h 0 0 = nI 3 := rfl
  have e2 : newS h 0 2 = nI 0 := rfl
  have c0 : nC (newS h) = 3 := by unfold nC; rw [e0, nI_clamp (by decide)]
  have c2 : nW (newS h) = 0 := by unfold nW; rw [e2, nI_clamp (by decide)]
  exact ⟨⟨by rw [c0, e0], by rw [c0]; decide, by rw [c0]; decide, by rw [c2, e2], by rw [c2]; decide⟩, c0, c2⟩
theorem Wf_put {h : Rg} (hw : Wf h) {c : Nat} (h2 : 2 ≤ c) (h4 : c ≤ 4) : Wf (up2 h 0 0 (nI c)) ∧ nC (up2 h 0 0 (nI c)) = c := by
  have e0 : up2 h 0 0 (nI c) 0 0 = nI c := rfl
  have e2 : up2 h 0 0 (nI c) 0 2 = h 0 2 := rfl
  have c0 : nC (up2 h 0 0 (nI c)) = c := by unfold nC; rw [e0, nI_clamp (by omega)]
  have c2 : nW (up2 h 0 0 (nI c)) = nW h := by unfold nW; rw [e2]
  exact ⟨⟨by rw [c0, e0], by rw [c0]; exact h2, by rw [c0]; exact h4, by rw [c2, e2]; exact hw.2.2.2.1, by rw [c2]; exact hw.2.2.2.2⟩, c0⟩
/-- a number that passes lies in its bounds -/
theorem pN_in {t : Rg} {n a b : Nat} (ha : a < 2 ^ 31) (hb : b < 2 ^ 31) (h : pN t n (nI a) (nI b)) : ∃ j, a ≤ j ∧ j ≤ b ∧ t 4 n = nI j := by
  have e0 : (0 : Int32).toInt = 0 := rfl
  have h1 := h.2.1
  rw [Int32.lt_iff_toInt_lt, nI_toInt ha] at h1
  have h0 : ¬ t 4 n < 0 := fun q => by rw [Int32.lt_iff_toInt_lt, e0] at q; omega
  obtain ⟨j, hj, e⟩ := nI_of2 (nI_toInt hb) h0 h.2.2
  rw [e, nI_toInt (by omega)] at h1
  exact ⟨j, by omega, hj, e⟩
theorem tcS_ok {t h : Rg} {n N : Nat} (hE : t 2 N = nI 0) (hn : n ≤ N) (hw : Wf h) (hk : ¬ (tcS t h n).1 = 0) : n < (tcS t h n).2.1 ∧ (tcS t h n).2.1 ≤ N ∧ Wf (tcS t h n).2.2 := by
  unfold tcS at hk ⊢
  split
  · rename_i b
    rw [if_pos b] at hk
    split
    · rename_i h4
      have h1 := tok_lt hE hn b.1 ne03
      have h2 := tok_lt hE (show n + 1 ≤ N by omega) h4 ne04
      obtain ⟨j, j1, j2, e⟩ := pN_in (by decide) (by decide) b
      refine ⟨by show n < n + 2; omega, by show n + 2 ≤ N; omega, ?_⟩
      show Wf (up2 h 0 0 (t 4 n))
      rw [e]
      exact (Wf_put hw j1 j2).1
    · rename_i h4
      rw [if_neg h4] at hk
      exact absurd rfl hk
  · rename_i b
    rw [if_neg b] at hk
    exact absurd rfl hk
theorem tbS_ok {t h : Rg} {n N : Nat} (hE : t 2 N = nI 0) (hn : n ≤ N) (hw : Wf h) (hk : ¬ (tbS t h n).1 = 0) : n < (tbS t h n).2.1 ∧ (tbS t h n).2.1 ≤ N ∧ Wf (tbS t h n).2.2 := by
  unfold tbS at hk ⊢
  by_cases b0 : pN t n (nI 0) (h 0 0 - nI 1)
  · rw [if_pos b0] at hk ⊢
    by_cases b1 : pN t (n + 1) (nI 0) (nI 99)
    · rw [if_pos b1] at hk ⊢
      by_cases b2 : pN t (n + 2) (nI 0) (nI 9)
      · rw [if_pos b2] at hk ⊢
        by_cases b3 : pN t (n + 3) (nI 0) (nI 99)
        · rw [if_pos b3] at hk ⊢
          by_cases h4 : t 2 (n + 4) = nI 4
          · rw [if_pos h4]
            have l0 := tok_lt hE hn b0.1 ne03
            have l1 := tok_lt hE (show n + 1 ≤ N by omega) b1.1 ne03
            have l2 := tok_lt hE (show n + 2 ≤ N by omega) b2.1 ne03
            have l3 := tok_lt hE (show n + 3 ≤ N by omega) b3.1 ne03
            have l4 := tok_lt hE (show n + 4 ≤ N by omega) h4 ne04
            exact ⟨by show n < n + 5; omega, by show n + 5 ≤ N; omega, hw.congr rfl⟩
          · rw [if_neg h4] at hk; exact absurd rfl hk
        · rw [if_neg b3] at hk; exact absurd rfl hk
      · rw [if_neg b2] at hk; exact absurd rfl hk
    · rw [if_neg b1] at hk; exact absurd rfl hk
  · rw [if_neg b0] at hk; exact absurd rfl hk
theorem tiS_ok {t h : Rg} {n N : Nat} {b : Int32} (hE : t 2 N = nI 0) (hn : n ≤ N) (hw : Wf h) (hk : ¬ (tiS t h n b).1 = 0) : n < (tiS t h n b).2.1 ∧ (tiS t h n b).2.1 ≤ N ∧ Wf (tiS t h n b).2.2 := by
  unfold tiS at hk ⊢
  split
  · rename_i c
    rw [if_pos c] at hk
    have l := tok_lt hE hn c.2 ne01
    have r := tcS_ok hE (show n + 1 ≤ N by omega) hw hk
    exact ⟨by omega, r.2.1, r.2.2⟩
  · rename_i c
    rw [if_neg c] at hk
    split
    · rename_i d
      rw [if_pos d] at hk
      have l := tok_lt hE hn d ne02
      have r := tbS_ok hE (show n + 1 ≤ N by omega) hw hk
      exact ⟨by omega, r.2.1, r.2.2⟩
    · rename_i d
      rw [if_neg d] at hk
      exact absurd rfl hk
/-- the token at which it ends or can't go on is there -/
theorem tcS_le {t h : Rg} {n N : Nat} (hE : t 2 N = nI 0) (hn : n ≤ N) : (tcS t h n).2.1 ≤ N := by
  unfold tcS
  split
  · rename_i b
    have h1 := tok_lt hE hn b.1 ne03
    split
    · rename_i h4
      have h2 := tok_lt hE (show n + 1 ≤ N by omega) h4 ne04
      show n + 2 ≤ N; omega
    · show n + 1 ≤ N; omega
  · exact hn
theorem tbS_le {t h : Rg} {n N : Nat} (hE : t 2 N = nI 0) (hn : n ≤ N) : (tbS t h n).2.1 ≤ N := by
  unfold tbS
  by_cases b0 : pN t n (nI 0) (h 0 0 - nI 1)
  · have l0 := tok_lt hE hn b0.1 ne03
    rw [if_pos b0]
    by_cases b1 : pN t (n + 1) (nI 0) (nI 99)
    · have l1 := tok_lt hE (show n + 1 ≤ N by omega) b1.1 ne03
      rw [if_pos b1]
      by_cases b2 : pN t (n + 2) (nI 0) (nI 9)
      · have l2 := tok_lt hE (show n + 2 ≤ N by omega) b2.1 ne03
        rw [if_pos b2]
        by_cases b3 : pN t (n + 3) (nI 0) (nI 99)
        · have l3 := tok_lt hE (show n + 3 ≤ N by omega) b3.1 ne03
          rw [if_pos b3]
          by_cases h4 : t 2 (n + 4) = nI 4
          · rw [if_pos h4]
            have l4 := tok_lt hE (show n + 4 ≤ N by omega) h4 ne04
            show n + 5 ≤ N; omega
          · rw [if_neg h4]; show n + 4 ≤ N; omega
        · rw [if_neg b3]; show n + 3 ≤ N; omega
      · rw [if_neg b2]; show n + 2 ≤ N; omega
    · rw [if_neg b1]; show n + 1 ≤ N; omega
  · rw [if_neg b0]; exact hn
theorem tiS_le {t h : Rg} {n N : Nat} {b : Int32} (hE : t 2 N = nI 0) (hn : n ≤ N) : (tiS t h n b).2.1 ≤ N := by
  unfold tiS
  split
  · rename_i c
    have l := tok_lt hE hn c.2 ne01
    exact tcS_le hE (by omega)
  · split
    · rename_i d
      have l := tok_lt hE hn d ne02
      exact tbS_le hE (by omega)
    · exact hn
theorem ftS_le {len : Nat} : ∀ (n : Nat) (t : Rg) (f p : Nat), f ≤ p → p ≤ len → (ftS len n t f p).2 ≤ len
  | 0, t, f, p, h1, h2 => by rw [ftS]; omega
  | n + 1, t, f, p, h1, h2 => by
    rw [ftS]
    split
    · rename_i hp
      have hg := tkE_gt (t 1) hp
      split
      · exact ftS_le n _ _ _ (by omega) (by omega)
      · exact ftS_le n _ _ _ (by omega) (by omega)
    · show f ≤ len; omega
theorem tok_ne {u : Rg} {n N : Nat} (hE : u 2 N = nI 0) (hn : n ≤ N) (hz : ¬ u 2 n = nI 0) : n < N := by
  rcases Nat.lt_or_ge n N with q | q
  · exact q
  · have e : n = N := by omega
    rw [e] at hz
    exact absurd hE hz
theorem finS_end (t : Rg) (len : Nat) : finS t len 2 (ftS len (len + 1) t 0 0).2 = nI 0 := by
  show upd _ _ _ _ = _
  unfold upd
  rw [if_pos rfl]
set_option maxHeartbeats 4000000 in
set_option maxRecDepth 100000 in
theorem k_X2_tellItem {X : Cx} {l : Launch} {σ0 : Hp} {t h : Rg} {n N : Nat} {b : Int32} (hv3 : Lv X 3 0) (hv1 : Lv X 1 1) (hE : t 2 N = nI 0) (hN : N ≤ 80) (hn : n ≤ N) (hw : Wf h) : Con X l yX2_tellItem cX2_tellItem 3 (some .boolean) 2 [.ref (adr X 3 0 0), .ref (adr X 1 1 0), .int b] (setR (setR σ0 1 1 h) 3 0 (tk t n)) (Ex (some (.int (tiS t h n b).1)) (setR (setR σ0 1 1 (tiS t h n b).2.2) 3 0 (tk t (tiS t h n b).2.1))) := by
  refine Con_of [some (.ref (adr X 3 0 0)), some (.ref (adr X 1 1 0)), some (.int b)] (by decide) rfl (Nat.le_of_ble_eq_true rfl) ?_
  have h18 : ¬ (¬ b = 0 ∧ t 2 n = nI 1) → T X l yX2_tellItem cX2_tellItem 3 (some .boolean) 2 18 [some (.ref (adr X 3 0 0)), some (.ref (adr X 1 1 0)), some (.int b)] [] (setR (setR σ0 1 1 h) 3 0 (tk t n)) (Ex (some (.int (tiS t h n b).1)) (setR (setR σ0 1 1 (tiS t h n b).2.2) 3 0 (tk t (tiS t h n b).2.1))) := by
    intro hc
    refine T_aload_n dX2_tellItem_18 rfl rfl ?_
    refine T_iconst (v := nI 2) dX2_tellItem_19 rfl ?_
    refine T_vi (Rc_of (hv3 0 (by decide)) rfl rfl) (k_X2_passKind hv3 (by omega)) ml_X2_47 im_yX2_passKind se_RX2_yX2_passKind ini_RX2 co_yX2_passKind rfl de_X2_passKind (by decide) (by decide) rfl (Nat.le_of_ble_eq_true rfl) dX2_tellItem_20 ?_
    refine T_if_eq 38 dX2_tellItem_23 (by decide) (fun h23 => ?_) (fun h23 => ?_)
    · refine T_iconst (v := nI 0) dX2_tellItem_38 rfl ?_
      refine T_zret (ty := .boolean) rfl (by decide) dX2_tellItem_39 ?_
      first | (refine ⟨?_, ?_⟩; rw [tiS, if_neg hc, if_pos b2, h31]; rfl; rw [tiS, if_neg hc, if_pos b2]) | (refine ⟨?_, ?_⟩; rw [tiS, if_neg hc, if_pos b2, (tbS_b t h (n + 1)).resolve_left h31]; rw [tiS, if_neg hc, if_pos b2]) | (have b2 := b01_0 h23; refine ⟨?_, ?_⟩; rw [tiS, if_neg hc, if_neg b2]; rw [tiS, if_neg hc, if_neg b2, if_neg b2])
    · have b2 := b01_1 h23
      have l2 := tok_lt hE hn b2 ne02
      rw [if_pos b2]
      refine T_aload_n dX2_tellItem_26 rfl rfl ?_
      refine T_aload_n dX2_tellItem_27 rfl rfl ?_
      refine T_vi (Rc_of (hv3 0 (by decide)) rfl rfl) (k_X2_tellBounds hv3 hv1 hE hN (by omega) hw) ml_X2_55 im_yX2_tellBounds se_RX2_yX2_tellBounds ini_RX2 co_yX2_tellBounds rfl de_X2_tellBounds (by decide) (by decide) rfl (Nat.le_of_ble_eq_true rfl) dX2_tellItem_28 ?_
      refine T_if_eq 38 dX2_tellItem_31 (by decide) (fun h31 => ?_) (fun h31 => ?_)
      · refine T_iconst (v := nI 0) dX2_tellItem_38 rfl ?_
        refine T_zret (ty := .boolean) rfl (by decide) dX2_tellItem_39 ?_
        first | (refine ⟨?_, ?_⟩; rw [tiS, if_neg hc, if_pos b2, h31]; rfl; rw [tiS, if_neg hc, if_pos b2]) | (refine ⟨?_, ?_⟩; rw [tiS, if_neg hc, if_pos b2, (tbS_b t h (n + 1)).resolve_left h31]; rw [tiS, if_neg hc, if_pos b2]) | (have b2 := b01_0 h23; refine ⟨?_, ?_⟩; rw [tiS, if_neg hc, if_neg b2]; rw [tiS, if_neg hc, if_neg b2, if_neg b2])
      · refine T_iconst (v := nI 1) dX2_tellItem_34 rfl ?_
        refine T_goto 39 dX2_tellItem_35 (by decide) ?_
        refine T_zret (ty := .boolean) rfl (by decide) dX2_tellItem_39 ?_
        first | (refine ⟨?_, ?_⟩; rw [tiS, if_neg hc, if_pos b2, h31]; rfl; rw [tiS, if_neg hc, if_pos b2]) | (refine ⟨?_, ?_⟩; rw [tiS, if_neg hc, if_pos b2, (tbS_b t h (n + 1)).resolve_left h31]; rw [tiS, if_neg hc, if_pos b2]) | (have b2 := b01_0 h23; refine ⟨?_, ?_⟩; rw [tiS, if_neg hc, if_neg b2]; rw [tiS, if_neg hc, if_neg b2, if_neg b2])
  refine T_iload_n dX2_tellItem_0 rfl rfl ?_
  refine T_if_eq 18 dX2_tellItem_1 (by decide) (fun h1 => ?_) (fun h1 => ?_)
  · first | (exact h18 (fun q => q.1 h1)) | (have b1 := b01_0 h9; rw [if_neg b1]; exact h18 (fun q => b1 q.2))
  · refine T_aload_n dX2_tellItem_4 rfl rfl ?_
    refine T_iconst (v := nI 1) dX2_tellItem_5 rfl ?_
    refine T_vi (Rc_of (hv3 0 (by decide)) rfl rfl) (k_X2_passKind hv3 (by omega)) ml_X2_47 im_yX2_passKind se_RX2_yX2_passKind ini_RX2 co_yX2_passKind rfl de_X2_passKind (by decide) (by decide) rfl (Nat.le_of_ble_eq_true rfl) dX2_tellItem_6 ?_
    refine T_if_eq 18 dX2_tellItem_9 (by decide) (fun h9 => ?_) (fun h9 => ?_)
    · first | (exact h18 (fun q => q.1 h1)) | (have b1 := b01_0 h9; rw [if_neg b1]; exact h18 (fun q => b1 q.2))
    · have b1 := b01_1 h9
      have l1 := tok_lt hE hn b1 ne01
      rw [if_pos b1]
      refine T_aload_n dX2_tellItem_12 rfl rfl ?_
      refine T_aload_n dX2_tellItem_13 rfl rfl ?_
      refine T_vi (Rc_of (hv3 0 (by decide)) rfl rfl) (k_X2_tellCopies hv3 hv1 hE hN (by omega)) ml_X2_51 im_yX2_tellCopies se_RX2_yX2_tellCopies ini_RX2 co_yX2_tellCopies rfl de_X2_tellCopies (by decide) (by decide) rfl (Nat.le_of_ble_eq_true rfl) dX2_tellItem_14 ?_
      refine T_zret (ty := .boolean) rfl (nar01 (tcS_b _ _ _)) dX2_tellItem_17 ?_
      exact ⟨by rw [tiS, if_pos ⟨h1, b1⟩], by rw [tiS, if_pos ⟨h1, b1⟩]⟩
set_option maxHeartbeats 4000000 in
set_option maxRecDepth 100000 in
theorem k_X2_tellInto {X : Cx} {l : Launch} {σ0 : Hp} {t h : Rg} {len : Nat} (hv3 : Lv X 3 0) (hv1 : Lv X 1 1) (hl : t 0 1 = nI len) (hl8 : len ≤ 80) : Con X l yX2_tellInto cX2_tellInto 3 (some .int) 8 [.ref (adr X 3 0 0), .ref (adr X 1 1 0)] (setR (setR σ0 1 1 h) 3 0 t) (Ex (some (.int (plS (finS t len) 82 0 (newS h) 0).1)) (setR (setR σ0 1 1 (plS (finS t len) 82 0 (newS h) 0).2.2) 3 0 (tk (finS t len) (plS (finS t len) 82 0 (newS h) 0).2.1))) := by
  refine Con_of [some (.ref (adr X 3 0 0)), some (.ref (adr X 1 1 0)), none] (by decide) rfl (Nat.le_of_ble_eq_true rfl) ?_
  obtain ⟨R, hR⟩ : ∃ R, R = (plS (finS t len) 82 0 (newS h) 0) := ⟨_, rfl⟩
  rw [← hR]
  have hE := finS_end t len
  have hN0 := ftS_le (len + 1) t 0 0 (Nat.le_refl _) (Nat.zero_le len)
  generalize (ftS len (len + 1) t 0 0).2 = N at hE hN0
  have hN : N ≤ 80 := by omega
  generalize hT : finS t len = u at hE hR
  have hlp : ∀ (f n k : Nat) (h2 : Rg), N - n < f → n ≤ N → k ≤ n → Wf h2 → R = plS u f n h2 k → T X l yX2_tellInto cX2_tellInto 3 (some .int) 8 15 [some (.ref (adr X 3 0 0)), some (.ref (adr X 1 1 0)), some (.int (nI k))] [] (setR (setR σ0 1 1 h2) 3 0 (tk u n)) (Ex (some (.int R.1)) (setR (setR σ0 1 1 R.2.2) 3 0 (tk u R.2.1))) := by
    intro f
    induction f with
    | zero => intro n k h2 h1; omega
    | succ f ih =>
      intro n k h2 h1 hn hkn hw2 hr
      rw [plS] at hr
      refine T_aload_n dX2_tellInto_15 rfl rfl ?_
      refine T_g3F hv3 2 (by decide) fl_X2_19 rfl dX2_tellInto_16 ?_
      refine T_aload_n dX2_tellInto_19 rfl rfl ?_
      refine T_g3F hv3 5 (by decide) fl_X2_29 rfl dX2_tellInto_20 ?_
      refine T_ialdF (hv3 _ (by decide)) rfl (Nat.le_of_ble_eq_true rfl) (n) (by omega) (rfl) dX2_tellInto_23 ?_
      refine T_if_eq 69 dX2_tellInto_24 (by decide) (fun h24 => ?_) (fun h24 => ?_)
      · refine T_aload_n dX2_tellInto_69 rfl rfl ?_
        refine T_vv (Rc_of (hv1 0 (by decide)) rfl rfl) (con_s2 (k_X1_splitAllNumbers hv1 hw2)) ml_X2_44 im_yX1_splitAllNumbers se_RX1_yX1_splitAllNumbers ini_RX1 co_yX1_splitAllNumbers rfl de_X1_splitAllNumbers (by decide) (by decide) rfl (Nat.le_of_ble_eq_true rfl) dX2_tellInto_70 ?_
        refine T_iload_n dX2_tellInto_73 rfl rfl ?_
        refine T_iret rfl dX2_tellInto_74 ?_
        have hz : u 2 n = nI 0 := h24
        rw [if_pos hz] at hr
        exact ⟨by rw [hr], by rw [hr]⟩
      · have hz : ¬ u 2 n = nI 0 := h24
        rw [if_neg hz] at hr
        have hlt : n < N := tok_ne hE hn hz
        refine T_iload_n dX2_tellInto_27 rfl rfl ?_
        refine T_bipush (v := nI 80) dX2_tellInto_28 (by decide) ?_
        refine T_icmp_ge 69 dX2_tellInto_30 (by decide) (fun h30 => (absurd h30 (nI_ge (show k < 80 by omega) (by omega)))) (fun h30 => ?_)
        refine T_aload_n dX2_tellInto_33 rfl rfl ?_
        refine T_aload_n dX2_tellInto_34 rfl rfl ?_
        refine T_iload_n dX2_tellInto_35 rfl rfl ?_
        refine T_if_ne 43 dX2_tellInto_36 (by decide) (fun h36 => ?_) (fun h36 => ?_)
        · have hfb : fB k = nI 0 := if_neg (fun e => h36 (congrArg nI e))
          rw [hfb] at hr
          refine T_iconst (v := nI 0) dX2_tellInto_43 rfl ?_
          refine T_vi (Rc_of (hv3 0 (by decide)) rfl rfl) (k_X2_tellItem hv3 hv1 hE hN hn hw2) ml_X2_40 im_yX2_tellItem se_RX2_yX2_tellItem ini_RX2 co_yX2_tellItem rfl de_X2_tellItem (by decide) (by decide) rfl (Nat.le_of_ble_eq_true rfl) dX2_tellInto_44 ?_
          refine T_if_ne 63 dX2_tellInto_47 (by decide) (fun h47 => ?_) (fun h47 => ?_)
          · rw [if_neg h47] at hr
            have hok := tiS_ok hE hn hw2 h47
            first | refine T_iincN2 dX2_tellInto_63 rfl (by decide) ?_ | refine T_iinc2 dX2_tellInto_63 rfl rfl (by decide) ?_
            refine T_goto 15 dX2_tellInto_66 (by decide) ?_
            exact ih _ _ _ (by omega) hok.2.1 (by omega) hok.2.2 hr
          · rw [if_pos h47] at hr
            refine T_bipush (v := -10) dX2_tellInto_50 (by decide) ?_
            refine T_aload_n dX2_tellInto_52 rfl rfl ?_
            refine T_g3F hv3 3 (by decide) fl_X2_23 rfl dX2_tellInto_53 ?_
            refine T_aload_n dX2_tellInto_56 rfl rfl ?_
            refine T_g3F hv3 5 (by decide) fl_X2_29 rfl dX2_tellInto_57 ?_
            refine T_ialdF (hv3 _ (by decide)) rfl (Nat.le_of_ble_eq_true rfl) _ (Nat.lt_of_le_of_lt (tiS_le hE hn) (by omega)) rfl dX2_tellInto_60 ?_
            refine T_isub dX2_tellInto_61 ?_
            refine T_iret rfl dX2_tellInto_62 ?_
            exact ⟨by rw [hr]; rfl, by rw [hr]⟩
        · have hk0 : k = 0 := nIe h36 (by omega) (by decide)
          have hfb : fB k = nI 1 := if_pos hk0
          rw [hfb] at hr
          refine T_iconst (v := nI 1) dX2_tellInto_39 rfl ?_
          refine T_goto 44 dX2_tellInto_40 (by decide) ?_
          refine T_vi (Rc_of (hv3 0 (by decide)) rfl rfl) (k_X2_tellItem hv3 hv1 hE hN hn hw2) ml_X2_40 im_yX2_tellItem se_RX2_yX2_tellItem ini_RX2 co_yX2_tellItem rfl de_X2_tellItem (by decide) (by decide) rfl (Nat.le_of_ble_eq_true rfl) dX2_tellInto_44 ?_
          refine T_if_ne 63 dX2_tellInto_47 (by decide) (fun h47 => ?_) (fun h47 => ?_)
          · rw [if_neg h47] at hr
            have hok := tiS_ok hE hn hw2 h47
            first | refine T_iincN2 dX2_tellInto_63 rfl (by decide) ?_ | refine T_iinc2 dX2_tellInto_63 rfl rfl (by decide) ?_
            refine T_goto 15 dX2_tellInto_66 (by decide) ?_
            exact ih _ _ _ (by omega) hok.2.1 (by omega) hok.2.2 hr
          · rw [if_pos h47] at hr
            refine T_bipush (v := -10) dX2_tellInto_50 (by decide) ?_
            refine T_aload_n dX2_tellInto_52 rfl rfl ?_
            refine T_g3F hv3 3 (by decide) fl_X2_23 rfl dX2_tellInto_53 ?_
            refine T_aload_n dX2_tellInto_56 rfl rfl ?_
            refine T_g3F hv3 5 (by decide) fl_X2_29 rfl dX2_tellInto_57 ?_
            refine T_ialdF (hv3 _ (by decide)) rfl (Nat.le_of_ble_eq_true rfl) _ (Nat.lt_of_le_of_lt (tiS_le hE hn) (by omega)) rfl dX2_tellInto_60 ?_
            refine T_isub dX2_tellInto_61 ?_
            refine T_iret rfl dX2_tellInto_62 ?_
            exact ⟨by rw [hr]; rfl, by rw [hr]⟩
  refine T_aload_n dX2_tellInto_0 rfl rfl ?_
  refine T_vv (Rc_of (hv3 0 (by decide)) rfl rfl) (k_X2_findTokens hv3 hl hl8) ml_X2_32 im_yX2_findTokens se_RX2_yX2_findTokens ini_RX2 co_yX2_findTokens rfl de_X2_findTokens (by decide) (by decide) rfl (Nat.le_of_ble_eq_true rfl) dX2_tellInto_1 ?_
  refine T_aload_n dX2_tellInto_4 rfl rfl ?_
  refine T_vv (Rc_of (hv1 0 (by decide)) rfl rfl) (con_s2 (k_X1_startAnew hv1)) ml_X2_35 im_yX1_startAnew se_RX1_yX1_startAnew ini_RX1 co_yX1_startAnew rfl de_X1_startAnew (by decide) (by decide) rfl (Nat.le_of_ble_eq_true rfl) dX2_tellInto_5 ?_
  refine T_aload_n dX2_tellInto_8 rfl rfl ?_
  refine T_iconst (v := nI 0) dX2_tellInto_9 rfl ?_
  refine T_p3F hv3 5 (by decide) rfl rfl fl_X2_29 (by decide) rfl dX2_tellInto_10 ?_
  refine T_iconst (v := nI 0) dX2_tellInto_13 rfl ?_
  refine T_istore2 dX2_tellInto_14 rfl (by decide) ?_
  rw [hT]
  exact hlp 82 0 0 (newS h) (by omega) (Nat.zero_le _) (Nat.le_refl _) (newS_W h).1 hR
