theorem nS_end (g : Nat → Int32) (len : Nat) : nS g len len = len := by unfold nS; rw [Nat.sub_self]; rfl
theorem nS_bl (g : Nat → Int32) {len j : Nat} (hj : j < len) (h : g j = nI 32) : nS g len j = nS g len (j + 1) := by
  unfold nS
  rw [show len - j = len - (j + 1) + 1 by omega, psS, if_pos h]
theorem nS_nb (g : Nat → Int32) {len j : Nat} (hj : j < len) (h : ¬ g j = nI 32) : nS g len j = j := by
  unfold nS
  rw [show len - j = len - (j + 1) + 1 by omega, psS, if_neg h]
theorem isLF {x : Int32} (h : isL x) : ¬ isF x := by
  obtain ⟨j, h1, h2, rfl⟩ := isL_of h
  intro q
  exact q.2 (nI_lt (by omega) (by omega))
theorem NX_end {h : Rg} {len p : Nat} {v : Int32} (hS : nS (h 7) len p = len) : NX h len p v = stN h (nI len) (nI 1000) (nI len) v := by
  unfold NX nE nK nV
  rw [if_pos hS, if_pos hS, if_pos hS, hS]
  rfl
theorem NX_w {h : Rg} {len p S E : Nat} {v : Int32} (hS : nS (h 7) len p = S) (hl : ¬ S = len) (hL : isL (h 7 S)) (hE : runL (h 7) (len - S) S = E) : NX h len p v = stN h (nI E) (kc (wK (h 7) S E)) (nI S) v := by
  unfold NX nE nK nV
  rw [hS, if_neg hl, if_neg hl, if_neg hl, if_neg (isLF hL)]
  unfold tkK
  rw [if_pos hL]
  unfold tkE
  rw [if_pos hL, hE]
theorem NX_f {h : Rg} {len p S E : Nat} {v : Int32} (hS : nS (h 7) len p = S) (hl : ¬ S = len) (hL : ¬ isL (h 7 S)) (hF : isF (h 7 S)) (hE : runF (h 7) (len - S) S = E) : NX h len p v = stN h (nI E) (kc (fK (h 7) S E)) (nI S) (vlM (h 7) S (E - S)) := by
  unfold NX nV nE nK
  rw [hS, if_neg hl, if_neg hl, if_neg hl, if_pos hF]
  unfold tkK
  rw [if_neg hL, if_pos hF]
  unfold tkE
  rw [if_neg hL, if_pos hF, hE]
theorem NX_o {h : Rg} {len p S : Nat} {v : Int32} (hS : nS (h 7) len p = S) (hl : ¬ S = len) (hL : ¬ isL (h 7 S)) (hF : ¬ isF (h 7 S)) : NX h len p v = stN h (nI (S + 1)) (kc (if h 7 S = nI 59 then nI 4 else nI 5)) (nI S) v := by
  unfold NX nV nE nK
  rw [hS, if_neg hl, if_neg hl, if_neg hl, if_neg hF]
  unfold tkK
  rw [if_neg hL, if_neg hF]
  unfold tkE
  rw [if_neg hL, if_neg hF]
theorem runL_s (g : Nat → Int32) {len j : Nat} (hj : j < len) (h : isL (g j)) : runL g (len - j) j = runL g (len - (j + 1)) (j + 1) := by
  rw [show len - j = len - (j + 1) + 1 by omega, runL, if_pos h]
theorem runL_n (g : Nat → Int32) {len j : Nat} (hj : j ≤ len) (h : ¬ (j < len ∧ isL (g j))) : runL g (len - j) j = j := by
  by_cases e : j < len
  · rw [show len - j = len - (j + 1) + 1 by omega, runL, if_neg (fun z => h ⟨e, z⟩)]
  · rw [show len - j = 0 by omega, runL]
theorem runF_s (g : Nat → Int32) {len j : Nat} (hj : j < len) (h : isF (g j)) : runF g (len - j) j = runF g (len - (j + 1)) (j + 1) := by
  rw [show len - j = len - (j + 1) + 1 by omega, runF, if_pos h]
theorem runF_n (g : Nat → Int32) {len j : Nat} (hj : j ≤ len) (h : ¬ (j < len ∧ isF (g j))) : runF g (len - j) j = j := by
  by_cases e : j < len
  · rw [show len - j = len - (j + 1) + 1 by omega, runF, if_neg (fun z => h ⟨e, z⟩)]
  · rw [show len - j = 0 by omega, runF]
theorem fK_a {g : Nat → Int32} {S E : Nat} (h : nI (S + 2) < nI E) (hS : S < 100) (hE : E < 100) : nI 1001 = kc (fK g S E) := by
  have : S + 2 < E := Nat.lt_of_not_le fun z => Int32.not_lt.mpr (nI_le z (by omega)) h
  unfold fK
  rw [if_pos (Or.inl (by omega))]
  rfl
theorem fK_b {g : Nat → Int32} {S E : Nat} (h : ¬ nI E ≤ nI (S + 1)) (h0 : g S = nI 48) (hS : S < 100) (hE : E < 100) : nI 1001 = kc (fK g S E) := by
  have : S + 1 < E := Nat.lt_of_not_le fun z => h (nI_le z (by omega))
  unfold fK
  rw [if_pos (Or.inr ⟨by omega, h0⟩)]
  rfl
theorem fK_c {g : Nat → Int32} {S E : Nat} (h : ¬ nI (S + 2) < nI E) (h0 : ¬ g S = nI 48) (hS : S < 100) (hE : E < 100) : nI 1002 = kc (fK g S E) := by
  have : ¬ S + 2 < E := fun z => h (nI_lt z (by omega))
  unfold fK
  rw [if_neg (fun q => q.elim (fun z => by omega) (fun z => h0 z.2))]
  rfl
theorem fK_d {g : Nat → Int32} {S E : Nat} (h : ¬ nI (S + 2) < nI E) (h0 : nI E ≤ nI (S + 1)) (hS : S < 100) (hE : E < 100) : nI 1002 = kc (fK g S E) := by
  have : ¬ S + 2 < E := fun z => h (nI_lt z (by omega))
  have : ¬ S + 1 < E := fun z => nI_ge z (by omega) h0
  unfold fK
  rw [if_neg (fun q => q.elim (fun z => by omega) (fun z => by omega))]
  rfl

set_option maxHeartbeats 4000000 in
set_option maxRecDepth 100000 in
theorem k_X4_next {X : Cx} {l : Launch} {σ0 : Hp} {h : Rg} {len p : Nat} {k s v : Int32} (hv4 : Lv X 4 0) (hl : h 0 8 = nI len) (hl8 : len ≤ 80) (hp : p ≤ len) : Con X l yX4_next cX4_next 1 none 2 [.ref (adr X 4 0 0)] (setR σ0 4 0 (stN h (nI p) k s v)) (Ex none (setR σ0 4 0 (NX h len p v))) := by
  refine Con_of [some (.ref (adr X 4 0 0))] (by decide) rfl (Nat.le_of_ble_eq_true rfl) ?_
  obtain ⟨S, hS⟩ : ∃ S, nS (h 7) len p = S := ⟨_, rfl⟩
  have hSl : S ≤ len := hS ▸ (nS_le (h 7) hp).2
  have hlw : ¬ S = len → isL (h 7 S) → ∀ (n j : Nat), j + n = len → S ≤ j → (∀ i, S ≤ i → i < j → isL (h 7 i)) → runL (h 7) (len - S) S = runL (h 7) (len - j) j → T X l yX4_next cX4_next 1 none 2 74 [some (.ref (adr X 4 0 0))] [] (setR σ0 4 0 (stN h (nI j) k (nI S) v)) (Ex none (setR σ0 4 0 (NX h len p v))) := by
    intro hSn hL0 n
    induction n with
    | zero =>
      intro j hj hSj hLj hr
      refine T_aload_n dX4_next_74 rfl rfl ?_
      refine T_vi (Rc_of (hv4 0 (by decide)) rfl rfl) (k_X4_isLetter hv4 hl hl8 (by omega)) ml_X4_81 im_yX4_isLetter se_RX4_yX4_isLetter ini_RX4 co_yX4_isLetter rfl de_X4_isLetter (by decide) (by decide) rfl (Nat.le_of_ble_eq_true rfl) dX4_next_75 ?_
      refine T_if_eq 94 dX4_next_78 (by decide) (fun h78 => ?_) (fun h78 => absurd (b01_1 h78).1 (by omega))
      have hE : runL (h 7) (len - j) j = j := runL_n (h 7) (by omega) (b01_0 h78)
      have hfin : NX h len p v = stN h (nI j) (kc (wK (h 7) S j)) (nI S) v := NX_w hS hSn hL0 (by rw [hr, hE])
      refine T_aload_n dX4_next_94 rfl rfl ?_
      refine T_aload_n dX4_next_95 rfl rfl ?_
      refine T_vi (Rc_of (hv4 0 (by decide)) rfl rfl) (k_X4_wordToken hv4 hSj (by omega) hLj) ml_X4_85 im_yX4_wordToken se_RX4_yX4_wordToken ini_RX4 co_yX4_wordToken rfl de_X4_wordToken (by decide) (by decide) rfl (Nat.le_of_ble_eq_true rfl) dX4_next_96 ?_
      refine T_p4F hv4 10 (by decide) rfl rfl fl_X4_78 (by decide) rfl dX4_next_99 ?_
      refine T_goto 269 dX4_next_102 (by decide) ?_
      rw [stN_k]
      exact T_vret rfl dX4_next_269 ⟨rfl, by rw [hfin]⟩
    | succ n ih =>
      intro j hj hSj hLj hr
      have hnx := ih (j + 1) (by omega) (by omega)
      refine T_aload_n dX4_next_74 rfl rfl ?_
      refine T_vi (Rc_of (hv4 0 (by decide)) rfl rfl) (k_X4_isLetter hv4 hl hl8 (by omega)) ml_X4_81 im_yX4_isLetter se_RX4_yX4_isLetter ini_RX4 co_yX4_isLetter rfl de_X4_isLetter (by decide) (by decide) rfl (Nat.le_of_ble_eq_true rfl) dX4_next_75 ?_
      refine T_if_eq 94 dX4_next_78 (by decide) (fun h78 => ?_) (fun h78 => ?_)
      · have hE : runL (h 7) (len - j) j = j := runL_n (h 7) (by omega) (b01_0 h78)
        have hfin : NX h len p v = stN h (nI j) (kc (wK (h 7) S j)) (nI S) v := NX_w hS hSn hL0 (by rw [hr, hE])
        refine T_aload_n dX4_next_94 rfl rfl ?_
        refine T_aload_n dX4_next_95 rfl rfl ?_
        refine T_vi (Rc_of (hv4 0 (by decide)) rfl rfl) (k_X4_wordToken hv4 hSj (by omega) hLj) ml_X4_85 im_yX4_wordToken se_RX4_yX4_wordToken ini_RX4 co_yX4_wordToken rfl de_X4_wordToken (by decide) (by decide) rfl (Nat.le_of_ble_eq_true rfl) dX4_next_96 ?_
        refine T_p4F hv4 10 (by decide) rfl rfl fl_X4_78 (by decide) rfl dX4_next_99 ?_
        refine T_goto 269 dX4_next_102 (by decide) ?_
        rw [stN_k]
        exact T_vret rfl dX4_next_269 ⟨rfl, by rw [hfin]⟩
      · have hj2 := b01_1 h78
        refine T_aload_n dX4_next_81 rfl rfl ?_
        refine T_dup dX4_next_82 rfl ?_
        refine T_g4F (v := .int (nI j)) hv4 9 (by decide) fl_X4_57 rfl dX4_next_83 ?_
        refine T_iconst (v := nI 1) dX4_next_86 rfl ?_
        first | refine T_iaddN dX4_next_87 ?_ | refine T_iadd dX4_next_87 ?_
        refine T_p4F hv4 9 (by decide) rfl rfl fl_X4_57 (by decide) rfl dX4_next_88 ?_
        refine T_goto 74 dX4_next_91 (by decide) ?_
        rw [stN_a]
        exact hnx (fun i h1 h2 => by
          by_cases e : i = j
          · rw [e]; exact hj2.2
          · exact hLj i h1 (by omega)) (by rw [hr, runL_s (h 7) hj2.1 hj2.2])
  have hlf : ¬ S = len → ¬ isL (h 7 S) → isF (h 7 S) → ∀ (n j : Nat), j + n = len → S ≤ j → runF (h 7) (len - S) S = runF (h 7) (len - j) j → T X l yX4_next cX4_next 1 none 2 117 [some (.ref (adr X 4 0 0))] [] (setR σ0 4 0 (stN h (nI j) k (nI S) (vlM (h 7) S (j - S)))) (Ex none (setR σ0 4 0 (NX h len p v))) := by
    intro hSn hL0 hF0 n
    induction n with
    | zero =>
      intro j hj hSj hr
      refine T_aload_n dX4_next_117 rfl rfl ?_
      refine T_vi (Rc_of (hv4 0 (by decide)) rfl rfl) (k_X4_isDigit hv4 hl hl8 (by omega)) ml_X4_89 im_yX4_isDigit se_RX4_yX4_isDigit ini_RX4 co_yX4_isDigit rfl de_X4_isDigit (by decide) (by decide) rfl (Nat.le_of_ble_eq_true rfl) dX4_next_118 ?_
      refine T_if_eq 177 dX4_next_121 (by decide) (fun h121 => ?_) (fun h121 => absurd (b01_1 h121).1 (by omega))
      have hE : runF (h 7) (len - j) j = j := runF_n (h 7) (by omega) (b01_0 h121)
      have hfin : NX h len p v = stN h (nI j) (kc (fK (h 7) S j)) (nI S) (vlM (h 7) S (j - S)) := NX_f hS hSn hL0 hF0 (by rw [hr, hE])
      have hS9 : S < 100 := by omega
      have hj9 : j < 100 := by omega
      refine T_aload_n dX4_next_177 rfl rfl ?_
      refine T_aload_n dX4_next_178 rfl rfl ?_
      refine T_g4F (v := .int (nI j)) hv4 9 (by decide) fl_X4_57 rfl dX4_next_179 ?_
      refine T_aload_n dX4_next_182 rfl rfl ?_
      refine T_g4F (v := .int (nI S)) hv4 11 (by decide) fl_X4_67 rfl dX4_next_183 ?_
      refine T_iconst (v := nI 2) dX4_next_186 rfl ?_
      first | refine T_iaddN dX4_next_187 ?_ | refine T_iadd dX4_next_187 ?_
      refine T_icmp_gt 218 dX4_next_188 (by decide) (fun h188 => ?_) (fun h188 => ?_)
      · refine T_sipush (v := nI 1001) dX4_next_218 (by decide) ?_
        refine T_goto 227 dX4_next_221 (by decide) ?_
        refine T_p4F hv4 10 (by decide) rfl rfl fl_X4_78 (by decide) rfl dX4_next_227 ?_
        refine T_goto 269 dX4_next_230 (by decide) ?_
        rw [stN_k]
        refine T_vret rfl dX4_next_269 ⟨rfl, ?_⟩
        rw [hfin]
        first | rw [← fK_a h188 hS9 hj9] | rw [← fK_b h215 h202 hS9 hj9] | rw [← fK_c h188 h202 hS9 hj9] | rw [← fK_d h188 h215 hS9 hj9]
      · refine T_aload_n dX4_next_191 rfl rfl ?_
        refine T_g4F hv4 7 (by decide) fl_X4_29 rfl dX4_next_192 ?_
        refine T_aload_n dX4_next_195 rfl rfl ?_
        refine T_g4F (v := .int (nI S)) hv4 11 (by decide) fl_X4_67 rfl dX4_next_196 ?_
        refine T_iald (g := h 7) (by rw [setR_self]; rfl) (hv4 7 (by decide)) rfl (n := 80) (by decide) S (by omega) rfl dX4_next_199 ?_
        refine T_bipush (v := nI 48) dX4_next_200 (by decide) ?_
        refine T_icmp_ne 224 dX4_next_202 (by decide) (fun h202 => ?_) (fun h202 => ?_)
        · refine T_sipush (v := nI 1002) dX4_next_224 (by decide) ?_
          refine T_p4F hv4 10 (by decide) rfl rfl fl_X4_78 (by decide) rfl dX4_next_227 ?_
          refine T_goto 269 dX4_next_230 (by decide) ?_
          rw [stN_k]
          refine T_vret rfl dX4_next_269 ⟨rfl, ?_⟩
          rw [hfin]
          first | rw [← fK_a h188 hS9 hj9] | rw [← fK_b h215 h202 hS9 hj9] | rw [← fK_c h188 h202 hS9 hj9] | rw [← fK_d h188 h215 hS9 hj9]
        · refine T_aload_n dX4_next_205 rfl rfl ?_
          refine T_g4F (v := .int (nI j)) hv4 9 (by decide) fl_X4_57 rfl dX4_next_206 ?_
          refine T_aload_n dX4_next_209 rfl rfl ?_
          refine T_g4F (v := .int (nI S)) hv4 11 (by decide) fl_X4_67 rfl dX4_next_210 ?_
          refine T_iconst (v := nI 1) dX4_next_213 rfl ?_
          first | refine T_iaddN dX4_next_214 ?_ | refine T_iadd dX4_next_214 ?_
          refine T_icmp_le 224 dX4_next_215 (by decide) (fun h215 => ?_) (fun h215 => ?_)
          · refine T_sipush (v := nI 1002) dX4_next_224 (by decide) ?_
            refine T_p4F hv4 10 (by decide) rfl rfl fl_X4_78 (by decide) rfl dX4_next_227 ?_
            refine T_goto 269 dX4_next_230 (by decide) ?_
            rw [stN_k]
            refine T_vret rfl dX4_next_269 ⟨rfl, ?_⟩
            rw [hfin]
            first | rw [← fK_a h188 hS9 hj9] | rw [← fK_b h215 h202 hS9 hj9] | rw [← fK_c h188 h202 hS9 hj9] | rw [← fK_d h188 h215 hS9 hj9]
          · refine T_sipush (v := nI 1001) dX4_next_218 (by decide) ?_
            refine T_goto 227 dX4_next_221 (by decide) ?_
            refine T_p4F hv4 10 (by decide) rfl rfl fl_X4_78 (by decide) rfl dX4_next_227 ?_
            refine T_goto 269 dX4_next_230 (by decide) ?_
            rw [stN_k]
            refine T_vret rfl dX4_next_269 ⟨rfl, ?_⟩
            rw [hfin]
            first | rw [← fK_a h188 hS9 hj9] | rw [← fK_b h215 h202 hS9 hj9] | rw [← fK_c h188 h202 hS9 hj9] | rw [← fK_d h188 h215 hS9 hj9]
    | succ n ih =>
      intro j hj hSj hr
      have hnx := ih (j + 1) (by omega) (by omega)
      refine T_aload_n dX4_next_117 rfl rfl ?_
      refine T_vi (Rc_of (hv4 0 (by decide)) rfl rfl) (k_X4_isDigit hv4 hl hl8 (by omega)) ml_X4_89 im_yX4_isDigit se_RX4_yX4_isDigit ini_RX4 co_yX4_isDigit rfl de_X4_isDigit (by decide) (by decide) rfl (Nat.le_of_ble_eq_true rfl) dX4_next_118 ?_
      refine T_if_eq 177 dX4_next_121 (by decide) (fun h121 => ?_) (fun h121 => ?_)
      · have hE : runF (h 7) (len - j) j = j := runF_n (h 7) (by omega) (b01_0 h121)
        have hfin : NX h len p v = stN h (nI j) (kc (fK (h 7) S j)) (nI S) (vlM (h 7) S (j - S)) := NX_f hS hSn hL0 hF0 (by rw [hr, hE])
        have hS9 : S < 100 := by omega
        have hj9 : j < 100 := by omega
        refine T_aload_n dX4_next_177 rfl rfl ?_
        refine T_aload_n dX4_next_178 rfl rfl ?_
        refine T_g4F (v := .int (nI j)) hv4 9 (by decide) fl_X4_57 rfl dX4_next_179 ?_
        refine T_aload_n dX4_next_182 rfl rfl ?_
        refine T_g4F (v := .int (nI S)) hv4 11 (by decide) fl_X4_67 rfl dX4_next_183 ?_
        refine T_iconst (v := nI 2) dX4_next_186 rfl ?_
        first | refine T_iaddN dX4_next_187 ?_ | refine T_iadd dX4_next_187 ?_
        refine T_icmp_gt 218 dX4_next_188 (by decide) (fun h188 => ?_) (fun h188 => ?_)
        · refine T_sipush (v := nI 1001) dX4_next_218 (by decide) ?_
          refine T_goto 227 dX4_next_221 (by decide) ?_
          refine T_p4F hv4 10 (by decide) rfl rfl fl_X4_78 (by decide) rfl dX4_next_227 ?_
          refine T_goto 269 dX4_next_230 (by decide) ?_
          rw [stN_k]
          refine T_vret rfl dX4_next_269 ⟨rfl, ?_⟩
          rw [hfin]
          first | rw [← fK_a h188 hS9 hj9] | rw [← fK_b h215 h202 hS9 hj9] | rw [← fK_c h188 h202 hS9 hj9] | rw [← fK_d h188 h215 hS9 hj9]
        · refine T_aload_n dX4_next_191 rfl rfl ?_
          refine T_g4F hv4 7 (by decide) fl_X4_29 rfl dX4_next_192 ?_
          refine T_aload_n dX4_next_195 rfl rfl ?_
          refine T_g4F (v := .int (nI S)) hv4 11 (by decide) fl_X4_67 rfl dX4_next_196 ?_
          refine T_iald (g := h 7) (by rw [setR_self]; rfl) (hv4 7 (by decide)) rfl (n := 80) (by decide) S (by omega) rfl dX4_next_199 ?_
          refine T_bipush (v := nI 48) dX4_next_200 (by decide) ?_
          refine T_icmp_ne 224 dX4_next_202 (by decide) (fun h202 => ?_) (fun h202 => ?_)
          · refine T_sipush (v := nI 1002) dX4_next_224 (by decide) ?_
            refine T_p4F hv4 10 (by decide) rfl rfl fl_X4_78 (by decide) rfl dX4_next_227 ?_
            refine T_goto 269 dX4_next_230 (by decide) ?_
            rw [stN_k]
            refine T_vret rfl dX4_next_269 ⟨rfl, ?_⟩
            rw [hfin]
            first | rw [← fK_a h188 hS9 hj9] | rw [← fK_b h215 h202 hS9 hj9] | rw [← fK_c h188 h202 hS9 hj9] | rw [← fK_d h188 h215 hS9 hj9]
          · refine T_aload_n dX4_next_205 rfl rfl ?_
            refine T_g4F (v := .int (nI j)) hv4 9 (by decide) fl_X4_57 rfl dX4_next_206 ?_
            refine T_aload_n dX4_next_209 rfl rfl ?_
            refine T_g4F (v := .int (nI S)) hv4 11 (by decide) fl_X4_67 rfl dX4_next_210 ?_
            refine T_iconst (v := nI 1) dX4_next_213 rfl ?_
            first | refine T_iaddN dX4_next_214 ?_ | refine T_iadd dX4_next_214 ?_
            refine T_icmp_le 224 dX4_next_215 (by decide) (fun h215 => ?_) (fun h215 => ?_)
            · refine T_sipush (v := nI 1002) dX4_next_224 (by decide) ?_
              refine T_p4F hv4 10 (by decide) rfl rfl fl_X4_78 (by decide) rfl dX4_next_227 ?_
              refine T_goto 269 dX4_next_230 (by decide) ?_
              rw [stN_k]
              refine T_vret rfl dX4_next_269 ⟨rfl, ?_⟩
              rw [hfin]
              first | rw [← fK_a h188 hS9 hj9] | rw [← fK_b h215 h202 hS9 hj9] | rw [← fK_c h188 h202 hS9 hj9] | rw [← fK_d h188 h215 hS9 hj9]
            · refine T_sipush (v := nI 1001) dX4_next_218 (by decide) ?_
              refine T_goto 227 dX4_next_221 (by decide) ?_
              refine T_p4F hv4 10 (by decide) rfl rfl fl_X4_78 (by decide) rfl dX4_next_227 ?_
              refine T_goto 269 dX4_next_230 (by decide) ?_
              rw [stN_k]
              refine T_vret rfl dX4_next_269 ⟨rfl, ?_⟩
              rw [hfin]
              first | rw [← fK_a h188 hS9 hj9] | rw [← fK_b h215 h202 hS9 hj9] | rw [← fK_c h188 h202 hS9 hj9] | rw [← fK_d h188 h215 hS9 hj9]
      · have hj2 := b01_1 h121
        have hrn : runF (h 7) (len - S) S = runF (h 7) (len - (j + 1)) (j + 1) := by rw [hr, runF_s (h 7) hj2.1 hj2.2]
        refine T_aload_n dX4_next_124 rfl rfl ?_
        refine T_aload_n dX4_next_125 rfl rfl ?_
        refine T_g4F (v := .int (vlM (h 7) S (j - S))) hv4 12 (by decide) fl_X4_92 rfl dX4_next_126 ?_
        refine T_bipush (v := nI 99) dX4_next_129 (by decide) ?_
        refine T_icmp_le 141 dX4_next_131 (by decide) (fun h131 => ?_) (fun h131 => ?_)
        · refine T_bipush (v := nI 10) dX4_next_141 (by decide) ?_
          refine T_aload_n dX4_next_143 rfl rfl ?_
          refine T_g4F (v := .int (vlM (h 7) S (j - S))) hv4 12 (by decide) fl_X4_92 rfl dX4_next_144 ?_
          refine T_imul dX4_next_147 ?_
          refine T_aload_n dX4_next_148 rfl rfl ?_
          refine T_g4F hv4 7 (by decide) fl_X4_29 rfl dX4_next_149 ?_
          refine T_aload_n dX4_next_152 rfl rfl ?_
          refine T_g4F (v := .int (nI j)) hv4 9 (by decide) fl_X4_57 rfl dX4_next_153 ?_
          refine T_iald (g := h 7) (by rw [setR_self]; rfl) (hv4 7 (by decide)) rfl (n := 80) (by decide) j (by omega) rfl dX4_next_156 ?_
          refine T_iadd dX4_next_157 ?_
          refine T_bipush (v := nI 48) dX4_next_158 (by decide) ?_
          refine T_isub dX4_next_160 ?_
          refine T_p4F hv4 12 (by decide) rfl rfl fl_X4_92 (by decide) rfl dX4_next_161 ?_
          refine T_aload_n dX4_next_164 rfl rfl ?_
          refine T_dup dX4_next_165 rfl ?_
          refine T_g4F (v := .int (nI j)) hv4 9 (by decide) fl_X4_57 rfl dX4_next_166 ?_
          refine T_iconst (v := nI 1) dX4_next_169 rfl ?_
          first | refine T_iaddN dX4_next_170 ?_ | refine T_iadd dX4_next_170 ?_
          refine T_p4F hv4 9 (by decide) rfl rfl fl_X4_57 (by decide) rfl dX4_next_171 ?_
          refine T_goto 117 dX4_next_174 (by decide) ?_
          rw [stN_v, stN_a]
          rw [show j + 1 - S = j - S + 1 by omega, vlM, show S + (j - S) = j by omega] at hnx
          first | rw [if_pos h131] at hnx | rw [if_neg h131] at hnx
          exact hnx hrn
        · refine T_aload_n dX4_next_134 rfl rfl ?_
          refine T_g4F (v := .int (vlM (h 7) S (j - S))) hv4 12 (by decide) fl_X4_92 rfl dX4_next_135 ?_
          refine T_goto 161 dX4_next_138 (by decide) ?_
          refine T_p4F hv4 12 (by decide) rfl rfl fl_X4_92 (by decide) rfl dX4_next_161 ?_
          refine T_aload_n dX4_next_164 rfl rfl ?_
          refine T_dup dX4_next_165 rfl ?_
          refine T_g4F (v := .int (nI j)) hv4 9 (by decide) fl_X4_57 rfl dX4_next_166 ?_
          refine T_iconst (v := nI 1) dX4_next_169 rfl ?_
          first | refine T_iaddN dX4_next_170 ?_ | refine T_iadd dX4_next_170 ?_
          refine T_p4F hv4 9 (by decide) rfl rfl fl_X4_57 (by decide) rfl dX4_next_171 ?_
          refine T_goto 117 dX4_next_174 (by decide) ?_
          rw [stN_v, stN_a]
          rw [show j + 1 - S = j - S + 1 by omega, vlM, show S + (j - S) = j by omega] at hnx
          first | rw [if_pos h131] at hnx | rw [if_neg h131] at hnx
          exact hnx hrn
  have h38 : T X l yX4_next cX4_next 1 none 2 38 [some (.ref (adr X 4 0 0))] [] (setR σ0 4 0 (stN h (nI S) k s v)) (Ex none (setR σ0 4 0 (NX h len p v))) := by
    refine T_aload_n dX4_next_38 rfl rfl ?_
    refine T_aload_n dX4_next_39 rfl rfl ?_
    refine T_g4F (v := .int (nI S)) hv4 9 (by decide) fl_X4_57 rfl dX4_next_40 ?_
    refine T_p4F hv4 11 (by decide) rfl rfl fl_X4_67 (by decide) rfl dX4_next_43 ?_
    rw [stN_s]
    refine T_aload_n dX4_next_46 rfl rfl ?_
    refine T_g4F (v := .int (nI S)) hv4 9 (by decide) fl_X4_57 rfl dX4_next_47 ?_
    refine T_aload_n dX4_next_50 rfl rfl ?_
    refine T_g4F (v := .int (nI len)) hv4 8 (by decide) fl_X4_60 (congrArg (fun z => some (Value.int z)) hl) dX4_next_51 ?_
    refine T_icmp_ne 67 dX4_next_54 (by decide) (fun h54 => ?_) (fun h54 => ?_)
    · have hSn : ¬ S = len := fun e => h54 (congrArg nI e)
      refine T_aload_n dX4_next_67 rfl rfl ?_
      refine T_vi (Rc_of (hv4 0 (by decide)) rfl rfl) (k_X4_isLetter hv4 hl hl8 (by omega)) ml_X4_81 im_yX4_isLetter se_RX4_yX4_isLetter ini_RX4 co_yX4_isLetter rfl de_X4_isLetter (by decide) (by decide) rfl (Nat.le_of_ble_eq_true rfl) dX4_next_68 ?_
      refine T_if_eq 105 dX4_next_71 (by decide) (fun h71 => ?_) (fun h71 => ?_)
      · refine T_aload_n dX4_next_105 rfl rfl ?_
        refine T_vi (Rc_of (hv4 0 (by decide)) rfl rfl) (k_X4_isDigit hv4 hl hl8 (by omega)) ml_X4_89 im_yX4_isDigit se_RX4_yX4_isDigit ini_RX4 co_yX4_isDigit rfl de_X4_isDigit (by decide) (by decide) rfl (Nat.le_of_ble_eq_true rfl) dX4_next_106 ?_
        refine T_if_eq 233 dX4_next_109 (by decide) (fun h109 => ?_) (fun h109 => ?_)
        · have hLn : ¬ isL (h 7 S) := fun z => b01_0 h71 ⟨by omega, z⟩
          have hFn : ¬ isF (h 7 S) := fun z => b01_0 h109 ⟨by omega, z⟩
          refine T_aload_n dX4_next_233 rfl rfl ?_
          refine T_aload_n dX4_next_234 rfl rfl ?_
          refine T_g4F hv4 7 (by decide) fl_X4_29 rfl dX4_next_235 ?_
          refine T_aload_n dX4_next_238 rfl rfl ?_
          refine T_g4F (v := .int (nI S)) hv4 9 (by decide) fl_X4_57 rfl dX4_next_239 ?_
          refine T_iald (g := h 7) (by rw [setR_self]; rfl) (hv4 7 (by decide)) rfl (n := 80) (by decide) S (by omega) rfl dX4_next_242 ?_
          refine T_bipush (v := nI 59) dX4_next_243 (by decide) ?_
          refine T_icmp_ne 253 dX4_next_245 (by decide) (fun h245 => ?_) (fun h245 => ?_)
          · refine T_sipush (v := nI 1001) dX4_next_253 (by decide) ?_
            refine T_p4F hv4 10 (by decide) rfl rfl fl_X4_78 (by decide) rfl dX4_next_256 ?_
            refine T_aload_n dX4_next_259 rfl rfl ?_
            refine T_dup dX4_next_260 rfl ?_
            refine T_g4F (v := .int (nI S)) hv4 9 (by decide) fl_X4_57 rfl dX4_next_261 ?_
            refine T_iconst (v := nI 1) dX4_next_264 rfl ?_
            first | refine T_iaddN dX4_next_265 ?_ | refine T_iadd dX4_next_265 ?_
            refine T_p4F hv4 9 (by decide) rfl rfl fl_X4_57 (by decide) rfl dX4_next_266 ?_
            first | (rw [stN_k]; exact T_vret rfl dX4_next_269 (And.intro rfl (by rw [NX_end (hS.trans hSe), hSe]))) | (rw [stN_k, stN_a]; refine T_vret rfl dX4_next_269 (And.intro rfl ?_); rw [NX_o hS hSn hLn hFn, if_pos h245]; rfl) | (rw [stN_k, stN_a]; refine T_vret rfl dX4_next_269 (And.intro rfl ?_); rw [NX_o hS hSn hLn hFn, if_neg h245]; rfl)
          · refine T_bipush (v := nI 59) dX4_next_248 (by decide) ?_
            refine T_goto 256 dX4_next_250 (by decide) ?_
            refine T_p4F hv4 10 (by decide) rfl rfl fl_X4_78 (by decide) rfl dX4_next_256 ?_
            refine T_aload_n dX4_next_259 rfl rfl ?_
            refine T_dup dX4_next_260 rfl ?_
            refine T_g4F (v := .int (nI S)) hv4 9 (by decide) fl_X4_57 rfl dX4_next_261 ?_
            refine T_iconst (v := nI 1) dX4_next_264 rfl ?_
            first | refine T_iaddN dX4_next_265 ?_ | refine T_iadd dX4_next_265 ?_
            refine T_p4F hv4 9 (by decide) rfl rfl fl_X4_57 (by decide) rfl dX4_next_266 ?_
            first | (rw [stN_k]; exact T_vret rfl dX4_next_269 (And.intro rfl (by rw [NX_end (hS.trans hSe), hSe]))) | (rw [stN_k, stN_a]; refine T_vret rfl dX4_next_269 (And.intro rfl ?_); rw [NX_o hS hSn hLn hFn, if_pos h245]; rfl) | (rw [stN_k, stN_a]; refine T_vret rfl dX4_next_269 (And.intro rfl ?_); rw [NX_o hS hSn hLn hFn, if_neg h245]; rfl)
        · refine T_aload_n dX4_next_112 rfl rfl ?_
          refine T_iconst (v := nI 0) dX4_next_113 rfl ?_
          refine T_p4F hv4 12 (by decide) rfl rfl fl_X4_92 (by decide) rfl dX4_next_114 ?_
          rw [stN_v]
          have h0 := hlf hSn (fun z => b01_0 h71 ⟨by omega, z⟩) (b01_1 h109).2 (len - S) S (by omega) (Nat.le_refl _) rfl
          rw [Nat.sub_self] at h0
          exact h0
      · exact hlw hSn (b01_1 h71).2 (len - S) S (by omega) (Nat.le_refl _) (fun i h1 h2 => by omega) rfl
    · have hSe : S = len := nIe h54 (by omega) (by omega)
      refine T_aload_n dX4_next_57 rfl rfl ?_
      refine T_sipush (v := nI 1000) dX4_next_58 (by decide) ?_
      refine T_p4F hv4 10 (by decide) rfl rfl fl_X4_78 (by decide) rfl dX4_next_61 ?_
      refine T_goto 269 dX4_next_64 (by decide) ?_
      first | (rw [stN_k]; exact T_vret rfl dX4_next_269 (And.intro rfl (by rw [NX_end (hS.trans hSe), hSe]))) | (rw [stN_k, stN_a]; refine T_vret rfl dX4_next_269 (And.intro rfl ?_); rw [NX_o hS hSn hLn hFn, if_pos h245]; rfl) | (rw [stN_k, stN_a]; refine T_vret rfl dX4_next_269 (And.intro rfl ?_); rw [NX_o hS hSn hLn hFn, if_neg h245]; rfl)
  have hlp : ∀ (n j : Nat), j + n = len → nS (h 7) len j = S → T X l yX4_next cX4_next 1 none 2 0 [some (.ref (adr X 4 0 0))] [] (setR σ0 4 0 (stN h (nI j) k s v)) (Ex none (setR σ0 4 0 (NX h len p v))) := by
    intro n
    induction n with
    | zero =>
      intro j hj hjs
      have hj0 : j = len := by omega
      have hjS : j = S := by rw [← hjs, hj0, nS_end]
      subst hjS
      refine T_aload_n dX4_next_0 rfl rfl ?_
      refine T_g4F (v := .int (nI j)) hv4 9 (by decide) fl_X4_57 rfl dX4_next_1 ?_
      refine T_aload_n dX4_next_4 rfl rfl ?_
      refine T_g4F (v := .int (nI len)) hv4 8 (by decide) fl_X4_60 (congrArg (fun z => some (Value.int z)) hl) dX4_next_5 ?_
      refine T_icmp_ge 38 dX4_next_8 (by decide) (fun h8 => ?_) (fun h8 => absurd (nI_le (by omega) (by omega)) h8)
      exact h38
    | succ n ih =>
      intro j hj hjs
      have hnx := ih (j + 1) (by omega)
      refine T_aload_n dX4_next_0 rfl rfl ?_
      refine T_g4F (v := .int (nI j)) hv4 9 (by decide) fl_X4_57 rfl dX4_next_1 ?_
      refine T_aload_n dX4_next_4 rfl rfl ?_
      refine T_g4F (v := .int (nI len)) hv4 8 (by decide) fl_X4_60 (congrArg (fun z => some (Value.int z)) hl) dX4_next_5 ?_
      refine T_icmp_ge 38 dX4_next_8 (by decide) (fun h8 => absurd h8 (nI_ge (by omega) (by omega))) (fun h8 => ?_)
      refine T_aload_n dX4_next_11 rfl rfl ?_
      refine T_g4F hv4 7 (by decide) fl_X4_29 rfl dX4_next_12 ?_
      refine T_aload_n dX4_next_15 rfl rfl ?_
      refine T_g4F (v := .int (nI j)) hv4 9 (by decide) fl_X4_57 rfl dX4_next_16 ?_
      refine T_iald (g := h 7) (by rw [setR_self]; rfl) (hv4 7 (by decide)) rfl (n := 80) (by decide) j (by omega) rfl dX4_next_19 ?_
      refine T_bipush (v := nI 32) dX4_next_20 (by decide) ?_
      refine T_icmp_ne 38 dX4_next_22 (by decide) (fun h22 => ?_) (fun h22 => ?_)
      · rw [nS_nb (h 7) (by omega) h22] at hjs
        subst hjs
        exact h38
      · refine T_aload_n dX4_next_25 rfl rfl ?_
        refine T_dup dX4_next_26 rfl ?_
        refine T_g4F (v := .int (nI j)) hv4 9 (by decide) fl_X4_57 rfl dX4_next_27 ?_
        refine T_iconst (v := nI 1) dX4_next_30 rfl ?_
        first | refine T_iaddN dX4_next_31 ?_ | refine T_iadd dX4_next_31 ?_
        refine T_p4F hv4 9 (by decide) rfl rfl fl_X4_57 (by decide) rfl dX4_next_32 ?_
        refine T_goto 0 dX4_next_35 (by decide) ?_
        rw [stN_a]
        exact hnx (by rw [← nS_bl (h 7) (by omega) h22]; exact hjs)
  exact hlp (len - p) p (by omega) hS
noncomputable def nR (g : Nat → Int32) (len p : Nat) (v lo hi : Int32) : Prop := kc (nK g len p) = nI 1002 ∧ inB (nV g len p v) lo hi
noncomputable def nRb (g : Nat → Int32) (len p : Nat) (v lo hi : Int32) : Int32 := @ite _ (nR g len p v lo hi) (Classical.propDecidable _) (nI 1) (nI 0)
theorem nRb_0 {g : Nat → Int32} {len p : Nat} {v lo hi : Int32} (h : nRb g len p v lo hi = 0) : ¬ nR g len p v lo hi := b01_0 h
theorem nRb_1 {g : Nat → Int32} {len p : Nat} {v lo hi : Int32} (h : ¬ nRb g len p v lo hi = 0) : nR g len p v lo hi := b01_1 h
set_option maxHeartbeats 4000000 in
set_option maxRecDepth 100000 in
theorem k_X4_readNumber {X : Cx} {l : Launch} {σ0 : Hp} {h : Rg} {len p : Nat} {k s v : Int32} (hv4 : Lv X 4 0) (hl : h 0 8 = nI len) (hl8 : len ≤ 80) {lo hi : Int32} (hp : p ≤ len) : Con X l yX4_readNumber cX4_readNumber 3 (some .boolean) 3 [.ref (adr X 4 0 0), .int lo, .int hi] (setR σ0 4 0 (stN h (nI p) k s v)) (Ex (some (.int (nRb (h 7) len p v lo hi))) (setR σ0 4 0 (NX h len p v))) := by
  refine Con_of [some (.ref (adr X 4 0 0)), some (.int lo), some (.int hi)] (by decide) rfl (Nat.le_of_ble_eq_true rfl) ?_
  refine T_aload_n dX4_readNumber_0 rfl rfl ?_
  refine T_vv (Rc_of (hv4 0 (by decide)) rfl rfl) (k_X4_next hv4 hl hl8 hp) ml_X4_95 im_yX4_next se_RX4_yX4_next ini_RX4 co_yX4_next rfl de_X4_next (by decide) (by decide) rfl (Nat.le_of_ble_eq_true rfl) dX4_readNumber_1 ?_
  refine T_aload_n dX4_readNumber_4 rfl rfl ?_
  refine T_g4F (v := .int (kc (nK (h 7) len p))) hv4 10 (by decide) fl_X4_78 rfl dX4_readNumber_5 ?_
  refine T_sipush (v := nI 1002) dX4_readNumber_8 (by decide) ?_
  refine T_icmp_ne 30 dX4_readNumber_11 (by decide) (fun h11 => ?_) (fun h11 => ?_)
  · refine T_iconst (v := nI 0) dX4_readNumber_30 rfl ?_
    refine T_zret (ty := .boolean) rfl (by decide) dX4_readNumber_31 ?_
    first | (refine ⟨?_, rfl⟩; unfold nRb nR; rw [if_pos (And.intro h11 (b01_1 h23))]) | (refine ⟨?_, rfl⟩; unfold nRb nR; rw [if_neg (nb2 (b01_0 h23))]) | (refine ⟨?_, rfl⟩; unfold nRb nR; rw [if_neg (nb1 h11)])
  · refine T_aload_n dX4_readNumber_14 rfl rfl ?_
    refine T_g4F (v := .int (nV (h 7) len p v)) hv4 12 (by decide) fl_X4_92 rfl dX4_readNumber_15 ?_
    refine T_iload_n dX4_readNumber_18 rfl rfl ?_
    refine T_iload_n dX4_readNumber_19 rfl rfl ?_
    refine T_si k_X4_in ml_X4_63 sm_yX4_in ini_RX4 co_yX4_in de_X4_in (by decide) (by decide) rfl (Nat.le_of_ble_eq_true rfl) dX4_readNumber_20 ?_
    refine T_if_eq 30 dX4_readNumber_23 (by decide) (fun h23 => ?_) (fun h23 => ?_)
    · refine T_iconst (v := nI 0) dX4_readNumber_30 rfl ?_
      refine T_zret (ty := .boolean) rfl (by decide) dX4_readNumber_31 ?_
      first | (refine ⟨?_, rfl⟩; unfold nRb nR; rw [if_pos (And.intro h11 (b01_1 h23))]) | (refine ⟨?_, rfl⟩; unfold nRb nR; rw [if_neg (nb2 (b01_0 h23))]) | (refine ⟨?_, rfl⟩; unfold nRb nR; rw [if_neg (nb1 h11)])
    · refine T_iconst (v := nI 1) dX4_readNumber_26 rfl ?_
      refine T_goto 31 dX4_readNumber_27 (by decide) ?_
      refine T_zret (ty := .boolean) rfl (by decide) dX4_readNumber_31 ?_
      first | (refine ⟨?_, rfl⟩; unfold nRb nR; rw [if_pos (And.intro h11 (b01_1 h23))]) | (refine ⟨?_, rfl⟩; unfold nRb nR; rw [if_neg (nb2 (b01_0 h23))]) | (refine ⟨?_, rfl⟩; unfold nRb nR; rw [if_neg (nb1 h11)])
