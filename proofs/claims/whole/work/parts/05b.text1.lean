/-! ===== the text ===== -/
abbrev isL (x : Int32) : Prop := ¬ x < nI 97 ∧ ¬ nI 122 < x
abbrev isF (x : Int32) : Prop := ¬ x < nI 48 ∧ ¬ nI 57 < x
/-- the place behind a row of small letters, of figures, that begins ahead of or at e -/
def runL (g : Nat → Int32) : Nat → Nat → Nat
  | 0, e => e
  | n + 1, e => if isL (g e) then runL g n (e + 1) else e
def runF (g : Nat → Int32) : Nat → Nat → Nat
  | 0, e => e
  | n + 1, e => if isF (g e) then runF g n (e + 1) else e
def valF (g : Nat → Int32) (s : Nat) : Nat → Int32
  | 0 => nI 0
  | n + 1 => valF g s n * nI 10 + (g (s + n) - nI 48)
/-- constant i stands from s to e -/
def wIs (i : Nat) (g : Nat → Int32) (s e : Nat) : Prop := s + 6 = e ∧ ∀ j, j < 6 → sB i j = g (s + j)
theorem runL_le (g : Nat → Int32) : ∀ n e, e ≤ runL g n e ∧ runL g n e ≤ e + n
  | 0, e => ⟨Nat.le_refl _, Nat.le_refl _⟩
  | n + 1, e => by
    rw [runL]
    split
    · have := runL_le g n (e + 1); omega
    · omega
theorem runF_le (g : Nat → Int32) : ∀ n e, e ≤ runF g n e ∧ runF g n e ≤ e + n
  | 0, e => ⟨Nat.le_refl _, Nat.le_refl _⟩
  | n + 1, e => by
    rw [runF]
    split
    · have := runF_le g n (e + 1); omega
    · omega
/-- the kind of the token at s, its end -/
noncomputable def tkE (g : Nat → Int32) (len s : Nat) : Nat := if isL (g s) then runL g (len - s) s else if isF (g s) then runF g (len - s) s else s + 1
noncomputable def wK (g : Nat → Int32) (s e : Nat) : Int32 := @ite _ (wIs 0 g s e) (Classical.propDecidable _) (nI 1) (@ite _ (wIs 1 g s e) (Classical.propDecidable _) (nI 2) (nI 5))
def fK (g : Nat → Int32) (s e : Nat) : Int32 := if 2 < e - s ∨ (1 < e - s ∧ g s = nI 48) then nI 5 else nI 3
noncomputable def tkK (g : Nat → Int32) (len s : Nat) : Int32 := if isL (g s) then wK g s (tkE g len s) else if isF (g s) then fK g s (tkE g len s) else if g s = nI 59 then nI 4 else nI 5
/-- the text with a token read into place f -/
noncomputable def tkU (t : Rg) (len f s : Nat) : Rg := if isL (t 1 s) then up2 t 2 f (tkK (t 1) len s) else if isF (t 1 s) then up2 (up2 t 2 f (tkK (t 1) len s)) 4 f (valF (t 1) s (tkE (t 1) len s - s)) else up2 t 2 f (tkK (t 1) len s)
/-- all tokens from p on, the first into place f: the text, how many places are taken -/
noncomputable def ftS (len : Nat) : Nat → Rg → Nat → Nat → Rg × Nat
  | 0, t, f, _ => (t, f)
  | n + 1, t, f, p => if p < len then (if t 1 p = nI 32 then ftS len n t f (p + 1) else ftS len n (tkU (up2 t 3 f (nI p)) len f p) (f + 1) (tkE (t 1) len p)) else (t, f)
noncomputable def finS (t : Rg) (len : Nat) : Rg := up2 (up2 (ftS len (len + 1) t 0 0).1 2 (ftS len (len + 1) t 0 0).2 (nI 0)) 3 (ftS len (len + 1) t 0 0).2 (nI len)
def tk (t : Rg) (n : Nat) : Rg := up2 t 0 5 (nI n)
theorem upd_upd (f : Nat → Int32) (j : Nat) (a b : Int32) : upd (upd f j a) j b = upd f j b := by
  funext i
  unfold upd
  split <;> rfl
theorem tk_tk (t : Rg) (n : Nat) (x : Int32) : up2 (tk t n) 0 5 x = up2 t 0 5 x := by
  funext k
  unfold tk
  by_cases h : k = 0
  · subst h; rw [up2_same, up2_same, up2_same, upd_upd]
  · rw [up2_ne h, up2_ne h, up2_ne h]

theorem nan1 {A B : Prop} (h : A) : ¬ (¬ A ∧ B) := fun q => q.1 h
theorem nan2 {A B : Prop} (h : B) : ¬ (A ∧ ¬ B) := fun q => q.2 h
set_option maxHeartbeats 4000000 in
set_option maxRecDepth 100000 in
theorem k_X2_isSmallLetter {X : Cx} {l : Launch} {σ : Hp} {x : Int32} : Con X l yX2_isSmallLetter cX2_isSmallLetter 1 (some .boolean) 0 [.int x] σ (Ex (some (.int (if isL x then nI 1 else nI 0))) σ) := by
  refine Con_of [some (.int x)] (by decide) rfl (Nat.le_of_ble_eq_true rfl) ?_
  refine T_iload_n dX2_isSmallLetter_0 rfl rfl ?_
  refine T_bipush (v := nI 97) dX2_isSmallLetter_1 (by decide) ?_
  refine T_icmp_lt 16 dX2_isSmallLetter_3 (by decide) (fun h3 => ?_) (fun h3 => ?_)
  · refine T_iconst (v := nI 0) dX2_isSmallLetter_16 rfl ?_
    refine T_zret (ty := .boolean) rfl (by decide) dX2_isSmallLetter_17 ?_
    first | (refine ⟨?_, rfl⟩; rw [if_neg (nan1 h3)]) | (refine ⟨?_, rfl⟩; rw [if_neg (nan2 h9)]) | (refine ⟨?_, rfl⟩; rw [if_pos (And.intro h3 h9)])
  · refine T_iload_n dX2_isSmallLetter_6 rfl rfl ?_
    refine T_bipush (v := nI 122) dX2_isSmallLetter_7 (by decide) ?_
    refine T_icmp_gt 16 dX2_isSmallLetter_9 (by decide) (fun h9 => ?_) (fun h9 => ?_)
    · refine T_iconst (v := nI 0) dX2_isSmallLetter_16 rfl ?_
      refine T_zret (ty := .boolean) rfl (by decide) dX2_isSmallLetter_17 ?_
      first | (refine ⟨?_, rfl⟩; rw [if_neg (nan1 h3)]) | (refine ⟨?_, rfl⟩; rw [if_neg (nan2 h9)]) | (refine ⟨?_, rfl⟩; rw [if_pos (And.intro h3 h9)])
    · refine T_iconst (v := nI 1) dX2_isSmallLetter_12 rfl ?_
      refine T_goto 17 dX2_isSmallLetter_13 (by decide) ?_
      refine T_zret (ty := .boolean) rfl (by decide) dX2_isSmallLetter_17 ?_
      first | (refine ⟨?_, rfl⟩; rw [if_neg (nan1 h3)]) | (refine ⟨?_, rfl⟩; rw [if_neg (nan2 h9)]) | (refine ⟨?_, rfl⟩; rw [if_pos (And.intro h3 h9)])
set_option maxHeartbeats 4000000 in
set_option maxRecDepth 100000 in
theorem k_X2_isFigure {X : Cx} {l : Launch} {σ : Hp} {x : Int32} : Con X l yX2_isFigure cX2_isFigure 1 (some .boolean) 0 [.int x] σ (Ex (some (.int (if isF x then nI 1 else nI 0))) σ) := by
  refine Con_of [some (.int x)] (by decide) rfl (Nat.le_of_ble_eq_true rfl) ?_
  refine T_iload_n dX2_isFigure_0 rfl rfl ?_
  refine T_bipush (v := nI 48) dX2_isFigure_1 (by decide) ?_
  refine T_icmp_lt 16 dX2_isFigure_3 (by decide) (fun h3 => ?_) (fun h3 => ?_)
  · refine T_iconst (v := nI 0) dX2_isFigure_16 rfl ?_
    refine T_zret (ty := .boolean) rfl (by decide) dX2_isFigure_17 ?_
    first | (refine ⟨?_, rfl⟩; rw [if_neg (nan1 h3)]) | (refine ⟨?_, rfl⟩; rw [if_neg (nan2 h9)]) | (refine ⟨?_, rfl⟩; rw [if_pos (And.intro h3 h9)])
  · refine T_iload_n dX2_isFigure_6 rfl rfl ?_
    refine T_bipush (v := nI 57) dX2_isFigure_7 (by decide) ?_
    refine T_icmp_gt 16 dX2_isFigure_9 (by decide) (fun h9 => ?_) (fun h9 => ?_)
    · refine T_iconst (v := nI 0) dX2_isFigure_16 rfl ?_
      refine T_zret (ty := .boolean) rfl (by decide) dX2_isFigure_17 ?_
      first | (refine ⟨?_, rfl⟩; rw [if_neg (nan1 h3)]) | (refine ⟨?_, rfl⟩; rw [if_neg (nan2 h9)]) | (refine ⟨?_, rfl⟩; rw [if_pos (And.intro h3 h9)])
    · refine T_iconst (v := nI 1) dX2_isFigure_12 rfl ?_
      refine T_goto 17 dX2_isFigure_13 (by decide) ?_
      refine T_zret (ty := .boolean) rfl (by decide) dX2_isFigure_17 ?_
      first | (refine ⟨?_, rfl⟩; rw [if_neg (nan1 h3)]) | (refine ⟨?_, rfl⟩; rw [if_neg (nan2 h9)]) | (refine ⟨?_, rfl⟩; rw [if_pos (And.intro h3 h9)])
set_option maxHeartbeats 4000000 in
set_option maxRecDepth 100000 in
theorem k_X2_add {X : Cx} {l : Launch} {σ0 : Hp} {t : Rg} {len : Nat} {x : Int32} (hv3 : Lv X 3 0) (hl : t 0 1 = nI len) (hl8 : len < 80) : Con X l yX2_add cX2_add 2 none 0 [.ref (adr X 3 0 0), .int x] (setR σ0 3 0 t) (Ex none (setR σ0 3 0 (up2 (up2 t 1 len (vp_nar .char x)) 0 1 (t 0 1 + nI 1)))) := by
  refine Con_of [some (.ref (adr X 3 0 0)), some (.int x)] (by decide) rfl (Nat.le_of_ble_eq_true rfl) ?_
  refine T_aload_n dX2_add_0 rfl rfl ?_
  refine T_g3F hv3 0 (by decide) fl_X2_9 rfl dX2_add_1 ?_
  refine T_aload_n dX2_add_4 rfl rfl ?_
  refine T_g3F hv3 1 (by decide) fl_X2_15 rfl dX2_add_5 ?_
  refine T_iload_n dX2_add_8 rfl rfl ?_
  refine T_castF (hv3 _ (by decide)) (fun _ => rfl) (Nat.le_of_ble_eq_true rfl) (len) (hl8) (hl) dX2_add_9 ?_
  refine T_aload_n dX2_add_10 rfl rfl ?_
  refine T_dup dX2_add_11 rfl ?_
  refine T_g3F hv3 1 (by decide) fl_X2_15 rfl dX2_add_12 ?_
  refine T_iconst (v := nI 1) dX2_add_15 rfl ?_
  refine T_iadd dX2_add_16 ?_
  refine T_p3F hv3 1 (by decide) rfl rfl fl_X2_15 (by decide) rfl dX2_add_17 ?_
  refine T_vret rfl dX2_add_20 ?_
  exact ⟨rfl, rfl⟩
set_option maxHeartbeats 4000000 in
set_option maxRecDepth 100000 in
theorem k_X2_drop {X : Cx} {l : Launch} {σ0 : Hp} {t : Rg} (hv3 : Lv X 3 0) : Con X l yX2_drop cX2_drop 2 (some .int) 0 [.ref (adr X 3 0 0)] (setR σ0 3 0 t) (Ex (some (.int (t 0 1))) (setR σ0 3 0 (up2 t 0 1 (nI 0)))) := by
  refine Con_of [some (.ref (adr X 3 0 0)), none] (by decide) rfl (Nat.le_of_ble_eq_true rfl) ?_
  refine T_aload_n dX2_drop_0 rfl rfl ?_
  refine T_g3F hv3 1 (by decide) fl_X2_15 rfl dX2_drop_1 ?_
  refine T_istore1 dX2_drop_4 rfl (by decide) ?_
  refine T_aload_n dX2_drop_5 rfl rfl ?_
  refine T_iconst (v := nI 0) dX2_drop_6 rfl ?_
  refine T_p3F hv3 1 (by decide) rfl rfl fl_X2_15 (by decide) rfl dX2_drop_7 ?_
  refine T_iload_n dX2_drop_10 rfl rfl ?_
  refine T_iret rfl dX2_drop_11 ?_
  exact ⟨rfl, rfl⟩
set_option maxHeartbeats 4000000 in
set_option maxRecDepth 100000 in
theorem k_X2_passKind {X : Cx} {l : Launch} {σ0 : Hp} {t : Rg} {n : Nat} {k : Int32} (hv3 : Lv X 3 0) (hn : n < 81) : Con X l yX2_passKind cX2_passKind 2 (some .boolean) 0 [.ref (adr X 3 0 0), .int k] (setR σ0 3 0 (tk t n)) (Ex (some (.int (if t 2 n = k then nI 1 else nI 0))) (setR σ0 3 0 (tk t (if t 2 n = k then n + 1 else n)))) := by
  refine Con_of [some (.ref (adr X 3 0 0)), some (.int k)] (by decide) rfl (Nat.le_of_ble_eq_true rfl) ?_
  refine T_aload_n dX2_passKind_0 rfl rfl ?_
  refine T_g3F hv3 2 (by decide) fl_X2_19 rfl dX2_passKind_1 ?_
  refine T_aload_n dX2_passKind_4 rfl rfl ?_
  refine T_g3F hv3 5 (by decide) fl_X2_29 rfl dX2_passKind_5 ?_
  refine T_ialdF (hv3 _ (by decide)) rfl (Nat.le_of_ble_eq_true rfl) (n) (hn) (rfl) dX2_passKind_8 ?_
  refine T_iload_n dX2_passKind_9 rfl rfl ?_
  refine T_icmp_eq 15 dX2_passKind_10 (by decide) (fun h10 => ?_) (fun h10 => ?_)
  · have h10 : t 2 n = k := h10
    refine T_aload_n dX2_passKind_15 rfl rfl ?_
    refine T_dup dX2_passKind_16 rfl ?_
    refine T_g3F hv3 5 (by decide) fl_X2_29 rfl dX2_passKind_17 ?_
    refine T_iconst (v := nI 1) dX2_passKind_20 rfl ?_
    refine T_iaddN (a := n) dX2_passKind_21 ?_
    refine T_p3F hv3 5 (by decide) rfl rfl fl_X2_29 (by decide) rfl dX2_passKind_22 ?_
    refine T_iconst (v := nI 1) dX2_passKind_25 rfl ?_
    refine T_zret (ty := .boolean) rfl (by decide) dX2_passKind_26 ?_
    exact ⟨by rw [if_pos h10], by rw [if_pos h10, tk_tk]; rfl⟩
  · have h10 : ¬ t 2 n = k := h10
    refine T_iconst (v := nI 0) dX2_passKind_13 rfl ?_
    refine T_zret (ty := .boolean) rfl (by decide) dX2_passKind_14 ?_
    exact ⟨by rw [if_neg h10], by rw [if_neg h10]⟩
abbrev pN (t : Rg) (n : Nat) (lo hi : Int32) : Prop := t 2 n = nI 3 ∧ ¬ t 4 n < lo ∧ t 4 n ≤ hi
theorem bn2 {A B C : Prop} (h : B) : ¬ (A ∧ ¬ B ∧ C) := fun q => q.2.1 h
set_option maxHeartbeats 4000000 in
set_option maxRecDepth 100000 in
theorem k_X2_passNumber {X : Cx} {l : Launch} {σ0 : Hp} {t : Rg} {n : Nat} {lo hi : Int32} (hv3 : Lv X 3 0) (hn : n < 81) : Con X l yX2_passNumber cX2_passNumber 3 (some .boolean) 0 [.ref (adr X 3 0 0), .int lo, .int hi] (setR σ0 3 0 (tk t n)) (Ex (some (.int (if pN t n lo hi then nI 1 else nI 0))) (setR σ0 3 0 (tk t (if pN t n lo hi then n + 1 else n)))) := by
  refine Con_of [some (.ref (adr X 3 0 0)), some (.int lo), some (.int hi)] (by decide) rfl (Nat.le_of_ble_eq_true rfl) ?_
  have g1 : ¬ tk t n 2 n = nI 3 → ¬ pN t n lo hi := fun h q => h q.1
  have g2 : tk t n 4 n < lo → ¬ pN t n lo hi := fun h q => q.2.1 h
  have g3 : ¬ tk t n 4 n ≤ hi → ¬ pN t n lo hi := fun h q => h q.2.2
  have g4 : tk t n 2 n = nI 3 → ¬ tk t n 4 n < lo → tk t n 4 n ≤ hi → pN t n lo hi := fun a b c => ⟨a, b, c⟩
  refine T_aload_n dX2_passNumber_0 rfl rfl ?_
  refine T_g3F hv3 2 (by decide) fl_X2_19 rfl dX2_passNumber_1 ?_
  refine T_aload_n dX2_passNumber_4 rfl rfl ?_
  refine T_g3F hv3 5 (by decide) fl_X2_29 rfl dX2_passNumber_5 ?_
  refine T_ialdF (hv3 _ (by decide)) rfl (Nat.le_of_ble_eq_true rfl) (n) (hn) (rfl) dX2_passNumber_8 ?_
  refine T_iconst (v := nI 3) dX2_passNumber_9 rfl ?_
  refine T_icmp_ne 39 dX2_passNumber_10 (by decide) (fun h10 => ?_) (fun h10 => ?_)
  · refine T_iconst (v := nI 0) dX2_passNumber_39 rfl ?_
    refine T_zret (ty := .boolean) rfl (by decide) dX2_passNumber_40 ?_
    first | (refine ⟨?_, ?_⟩ <;> rw [if_neg (g1 h10)]) | (refine ⟨?_, ?_⟩ <;> rw [if_neg (g2 h23)]) | (refine ⟨?_, ?_⟩ <;> rw [if_neg (g3 h36)])
  · refine T_aload_n dX2_passNumber_13 rfl rfl ?_
    refine T_g3F hv3 4 (by decide) fl_X2_26 rfl dX2_passNumber_14 ?_
    refine T_aload_n dX2_passNumber_17 rfl rfl ?_
    refine T_g3F hv3 5 (by decide) fl_X2_29 rfl dX2_passNumber_18 ?_
    refine T_ialdF (hv3 _ (by decide)) rfl (Nat.le_of_ble_eq_true rfl) (n) (hn) (rfl) dX2_passNumber_21 ?_
    refine T_iload_n dX2_passNumber_22 rfl rfl ?_
    refine T_icmp_lt 39 dX2_passNumber_23 (by decide) (fun h23 => ?_) (fun h23 => ?_)
    · refine T_iconst (v := nI 0) dX2_passNumber_39 rfl ?_
      refine T_zret (ty := .boolean) rfl (by decide) dX2_passNumber_40 ?_
      first | (refine ⟨?_, ?_⟩ <;> rw [if_neg (g1 h10)]) | (refine ⟨?_, ?_⟩ <;> rw [if_neg (g2 h23)]) | (refine ⟨?_, ?_⟩ <;> rw [if_neg (g3 h36)])
    · refine T_aload_n dX2_passNumber_26 rfl rfl ?_
      refine T_g3F hv3 4 (by decide) fl_X2_26 rfl dX2_passNumber_27 ?_
      refine T_aload_n dX2_passNumber_30 rfl rfl ?_
      refine T_g3F hv3 5 (by decide) fl_X2_29 rfl dX2_passNumber_31 ?_
      refine T_ialdF (hv3 _ (by decide)) rfl (Nat.le_of_ble_eq_true rfl) (n) (hn) (rfl) dX2_passNumber_34 ?_
      refine T_iload_n dX2_passNumber_35 rfl rfl ?_
      refine T_icmp_le 41 dX2_passNumber_36 (by decide) (fun h36 => ?_) (fun h36 => ?_)
      · refine T_aload_n dX2_passNumber_41 rfl rfl ?_
        refine T_dup dX2_passNumber_42 rfl ?_
        refine T_g3F hv3 5 (by decide) fl_X2_29 rfl dX2_passNumber_43 ?_
        refine T_iconst (v := nI 1) dX2_passNumber_46 rfl ?_
        refine T_iaddN (a := n) dX2_passNumber_47 ?_
        refine T_p3F hv3 5 (by decide) rfl rfl fl_X2_29 (by decide) rfl dX2_passNumber_48 ?_
        refine T_iconst (v := nI 1) dX2_passNumber_51 rfl ?_
        refine T_zret (ty := .boolean) rfl (by decide) dX2_passNumber_52 ?_
        have g := g4 h10 h23 h36
        exact ⟨by rw [if_pos g], by rw [if_pos g, tk_tk]; rfl⟩
      · refine T_iconst (v := nI 0) dX2_passNumber_39 rfl ?_
        refine T_zret (ty := .boolean) rfl (by decide) dX2_passNumber_40 ?_
        first | (refine ⟨?_, ?_⟩ <;> rw [if_neg (g1 h10)]) | (refine ⟨?_, ?_⟩ <;> rw [if_neg (g2 h23)]) | (refine ⟨?_, ?_⟩ <;> rw [if_neg (g3 h36)])
set_option maxHeartbeats 4000000 in
set_option maxRecDepth 100000 in
theorem k_X2_spells {X : Cx} {l : Launch} {σ0 : Hp} {t : Rg} {i s e : Nat} (hv3 : Lv X 3 0) (hi : i < 2) (hse : s ≤ e) (he : e ≤ 80) : Con X l yX2_spells cX2_spells 5 (some .boolean) 4 [.ref (adr X 3 0 0), .ref (sA X i), .int (nI s), .int (nI e)] (setR σ0 3 0 t) (Ex (some (.int (@ite _ (wIs i (t 1) s e) (Classical.propDecidable _) (nI 1) (nI 0)))) (setR σ0 3 0 t)) := by
  refine Con_of [some (.ref (adr X 3 0 0)), some (.ref (sA X i)), some (.int (nI s)), some (.int (nI e)), none] (by decide) rfl (Nat.le_of_ble_eq_true rfl) ?_
  have hpos : wIs i (t 1) s e → (@ite _ (wIs i (t 1) s e) (Classical.propDecidable _) (nI 1) (nI 0)) = nI 1 := fun h => if_pos h
  have hneg : ¬ wIs i (t 1) s e → (@ite _ (wIs i (t 1) s e) (Classical.propDecidable _) (nI 1) (nI 0)) = nI 0 := fun h => if_neg h
  have hlp : s + 6 = e → ∀ n k : Nat, k + n = 6 → (∀ j, j < k → sB i j = t 1 (s + j)) → T X l yX2_spells cX2_spells 5 (some .boolean) 4 15 [some (.ref (adr X 3 0 0)), some (.ref (sA X i)), some (.int (nI s)), some (.int (nI e)), some (.int (nI k))] [] (setR σ0 3 0 t) (Ex (some (.int (@ite _ (wIs i (t 1) s e) (Classical.propDecidable _) (nI 1) (nI 0)))) (setR σ0 3 0 t)) := by
    intro hse n
    induction n with
    | zero =>
      intro k hk hall
      have hk : k = 6 := by omega
      subst hk
      refine T_iload dX2_spells_15 rfl ?_
      refine T_aload_n dX2_spells_17 rfl rfl ?_
      refine T_vi (Rc_str hi) (k_J0_length_8abf5 hi) ml_X2_93 im_yJ0_length_8abf5 se_RJ0_yJ0_length_8abf5 ini_RJ0 co_yJ0_length_8abf5 rfl de_J0_length_8abf5 (by decide) (by decide) rfl (Nat.le_of_ble_eq_true rfl) dX2_spells_18 ?_
      refine T_icmp_ge 50 dX2_spells_21 (by decide) (fun h21 => ?_) (fun h21 => (absurd (nI_le (Nat.le_refl _) (by omega)) h21))
      refine T_iconst (v := nI 1) dX2_spells_50 rfl ?_
      refine T_zret (ty := .boolean) rfl (by decide) dX2_spells_51 ?_
      exact ⟨by rw [hpos ⟨hse, hall⟩], rfl⟩
    | succ n ih =>
      intro k hk hall
      have hk : k < 6 := by omega
      refine T_iload dX2_spells_15 rfl ?_
      refine T_aload_n dX2_spells_17 rfl rfl ?_
      refine T_vi (Rc_str hi) (k_J0_length_8abf5 hi) ml_X2_93 im_yJ0_length_8abf5 se_RJ0_yJ0_length_8abf5 ini_RJ0 co_yJ0_length_8abf5 rfl de_J0_length_8abf5 (by decide) (by decide) rfl (Nat.le_of_ble_eq_true rfl) dX2_spells_18 ?_
      refine T_icmp_ge 50 dX2_spells_21 (by decide) (fun h21 => (absurd h21 (nI_ge hk (by omega)))) (fun h21 => ?_)
      refine T_aload_n dX2_spells_24 rfl rfl ?_
      refine T_iload dX2_spells_25 rfl ?_
      refine T_vi (Rc_str hi) (k_J0_charAt_5068e hi (by omega)) ml_X2_98 im_yJ0_charAt_5068e se_RJ0_yJ0_charAt_5068e ini_RJ0 co_yJ0_charAt_5068e rfl de_J0_charAt_5068e (by decide) (by decide) rfl (Nat.le_of_ble_eq_true rfl) dX2_spells_27 ?_
      refine T_aload_n dX2_spells_30 rfl rfl ?_
      refine T_g3F hv3 0 (by decide) fl_X2_9 rfl dX2_spells_31 ?_
      refine T_iload_n dX2_spells_34 rfl rfl ?_
      refine T_iload dX2_spells_35 rfl ?_
      first | refine T_iaddN dX2_spells_37 ?_ | refine T_iadd dX2_spells_37 ?_
      refine T_caldF (hv3 _ (by decide)) rfl (Nat.le_of_ble_eq_true rfl) _ (by omega) rfl dX2_spells_38 ?_
      refine T_icmp_eq 44 dX2_spells_39 (by decide) (fun h39 => ?_) (fun h39 => ?_)
      · first | refine T_iincN4 dX2_spells_44 rfl (by decide) ?_ | refine T_iinc4 dX2_spells_44 rfl rfl (by decide) ?_
        refine T_goto 15 dX2_spells_47 (by decide) ?_
        exact ih (k + 1) (by omega) (fun j hj => by
          rcases (show j < k ∨ j = k by omega) with h | h
          · exact hall j h
          · rw [h]; exact h39)
      · refine T_iconst (v := nI 0) dX2_spells_42 rfl ?_
        refine T_zret (ty := .boolean) rfl (by decide) dX2_spells_43 ?_
        exact ⟨by rw [hneg (fun q => h39 (q.2 k hk))], rfl⟩
  refine T_aload_n dX2_spells_0 rfl rfl ?_
  refine T_vi (Rc_str hi) (k_J0_length_8abf5 hi) ml_X2_93 im_yJ0_length_8abf5 se_RJ0_yJ0_length_8abf5 ini_RJ0 co_yJ0_length_8abf5 rfl de_J0_length_8abf5 (by decide) (by decide) rfl (Nat.le_of_ble_eq_true rfl) dX2_spells_1 ?_
  refine T_iload_n dX2_spells_4 rfl rfl ?_
  refine T_iload_n dX2_spells_5 rfl rfl ?_
  refine T_isub dX2_spells_6 ?_
  rw [pk_sub hse]
  refine T_icmp_eq 12 dX2_spells_7 (by decide) (fun h7 => ?_) (fun h7 => ?_)
  · refine T_iconst (v := nI 0) dX2_spells_12 rfl ?_
    refine T_istore4 dX2_spells_13 rfl (by decide) ?_
    have h7 := nIe h7 (by omega) (by omega)
    exact hlp (by omega) 6 0 (by omega) (fun j hj => absurd hj (Nat.not_lt_zero j))
  · refine T_iconst (v := nI 0) dX2_spells_10 rfl ?_
    refine T_zret (ty := .boolean) rfl (by decide) dX2_spells_11 ?_
    exact ⟨by rw [hneg (fun q => h7 (congrArg nI (by have := q.1; omega)))], rfl⟩
