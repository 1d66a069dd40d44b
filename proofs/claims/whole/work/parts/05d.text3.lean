/-! ===== the text's items, told into ledger 1 ===== -/
def tcS (t h : Rg) (n : Nat) : Int32 × Nat × Rg := if pN t n (nI 2) (nI 4) then (if t 2 (n + 1) = nI 4 then (nI 1, n + 2, up2 h 0 0 (t 4 n)) else (nI 0, n + 1, up2 h 0 0 (t 4 n))) else (nI 0, n, h)
def tbS (t h : Rg) (n : Nat) : Int32 × Nat × Rg :=
  if pN t n (nI 0) (h 0 0 - nI 1) then
    if pN t (n + 1) (nI 0) (nI 99) then
      if pN t (n + 2) (nI 0) (nI 9) then
        if pN t (n + 3) (nI 0) (nI 99) then
          (if t 2 (n + 4) = nI 4 then (nI 1, n + 5, setbS h (t 4 n).toNatClampNeg (t 4 (n + 1)) (t 4 (n + 2)) (t 4 (n + 3))) else (nI 0, n + 4, setbS h (t 4 n).toNatClampNeg (t 4 (n + 1)) (t 4 (n + 2)) (t 4 (n + 3))))
        else (nI 0, n + 3, h)
      else (nI 0, n + 2, h)
    else (nI 0, n + 1, h)
  else (nI 0, n, h)
def tiS (t h : Rg) (n : Nat) (b : Int32) : Int32 × Nat × Rg := if ¬ b = 0 ∧ t 2 n = nI 1 then tcS t h (n + 1) else if t 2 n = nI 2 then tbS t h (n + 1) else (nI 0, n, h)
def fB (k : Nat) : Int32 := if k = 0 then nI 1 else nI 0
/-- all items from token n on: the answer, the token, the ledger -/
def plS (t : Rg) : Nat → Nat → Rg → Nat → Int32 × Nat × Rg
  | 0, n, h, k => (nI k, n, h)
  | f + 1, n, h, k => if t 2 n = nI 0 then (nI k, n, spaS h (nC h)) else if (tiS t h n (fB k)).1 = 0 then (-10 - t 3 (tiS t h n (fB k)).2.1, (tiS t h n (fB k)).2.1, (tiS t h n (fB k)).2.2) else plS t f (tiS t h n (fB k)).2.1 (tiS t h n (fB k)).2.2 (k + 1)
theorem s2_comm (σ0 : Hp) (t h : Rg) : setR (setR σ0 1 1 h) 3 0 t = setR (setR σ0 3 0 t) 1 1 h := by
  funext K r
  unfold setR
  by_cases h1 : K = 3 ∧ r = 0
  · have h2 : ¬ (K = 1 ∧ r = 1) := by omega
    rw [if_pos h1, if_neg h2, if_pos h1]
  · rw [if_neg h1]
    by_cases h2 : K = 1 ∧ r = 1
    · rw [if_pos h2, if_pos h2]
    · rw [if_neg h2, if_neg h2, if_neg h1]
theorem s2_put (σ0 : Hp) (t h h' : Rg) : setR (setR (setR σ0 1 1 h) 3 0 t) 1 1 h' = setR (setR σ0 1 1 h') 3 0 t := by
  rw [s2_comm, setR_setR, s2_comm]
section S2ROWS
variable {X : Cx} {l : Launch} {y : MethodName} {cc : ByteArray} {nL : Nat} {ret : Option FieldType} {d pc : Nat} {ls : List (Option Value)} {st : List Value} {σ0 : Hp} {t h : Rg} {Q : Option Value → Hp → Prop}
theorem con_s2 {As : List Value} {r0 : Option Value} {h1 h2 : Rg} (hc : Con X l y cc nL ret d As (setR (setR σ0 3 0 t) 1 1 h1) (Ex r0 (setR (setR σ0 3 0 t) 1 1 h2))) : Con X l y cc nL ret d As (setR (setR σ0 1 1 h1) 3 0 t) (Ex r0 (setR (setR σ0 1 1 h2) 3 0 t)) := by
  rw [s2_comm, s2_comm]
  exact hc
theorem T_g1S {index : Nat} {v : Value} (hL : Lv X 1 1) (f : Nat) (hf : f < 13) (hlink : Cond.fieldLink y.cls index (TX1 f).1 (TX1 f).2.1 (TX1 f).2.2.1 ∈ tb) (hv : (fl1 X 1 (h 0))[f]? = some v) (hd : decode cc pc = .ok (.getfield index, 3)) (k : T X l y cc nL ret d (pc + 3) ls (v :: st) (setR (setR σ0 1 1 h) 3 0 t) Q) : T X l y cc nL ret d pc ls (.ref (adr X 1 1 0) :: st) (setR (setR σ0 1 1 h) 3 0 t) Q :=
  T_get (g := h 0) (fs := fl1 X 1 (h 0)) rfl (hL 0 (by decide)) rfl rfl inX1 f hf hlink hv hd k
theorem T_p1S {index : Nat} {x : Int32} (hL : Lv X 1 1) (f : Nat) (hf : f < 13) (hfin : (TX1 f).2.2.2 = false) (hI : tyX1 f = .int) (hlink : Cond.fieldLink y.cls index (TX1 f).1 (TX1 f).2.1 (TX1 f).2.2.1 ∈ tb) (hfl : f < 13) (hset : fl1 X 1 (upd (h 0) f x) = (fl1 X 1 (h 0)).set f (.int x)) (hd : decode cc pc = .ok (.putfield index, 3)) (k : T X l y cc nL ret d (pc + 3) ls st (setR (setR σ0 1 1 (up2 h 0 f x)) 3 0 t) Q) : T X l y cc nL ret d pc ls (.int x :: .ref (adr X 1 1 0) :: st) (setR (setR σ0 1 1 h) 3 0 t) Q :=
  T_put (h := h) (fs := fl1 X 1 (h 0)) rfl (hL 0 (by decide)) rfl rfl inX1 tyX1 tyX1_ok nmX1 f hf hfin hI hlink hfl (congrArg (fun z => Sum.inr (1, z)) hset) (s2_put σ0 t h _) hd k
end S2ROWS
theorem tk_05 (t : Rg) (n : Nat) : tk t n 0 5 = nI n := rfl
theorem ne03 : ¬ nI 0 = nI 3 := by decide
theorem ne01 : ¬ nI 0 = nI 1 := by decide
theorem ne02 : ¬ nI 0 = nI 2 := by decide
theorem ne04 : ¬ nI 0 = nI 4 := by decide
/-- a token that isn't the end stands ahead of it -/
theorem tok_lt {t : Rg} {n N : Nat} {x : Int32} (hE : t 2 N = nI 0) (hn : n ≤ N) (h : t 2 n = x) (hx : ¬ nI 0 = x) : n < N := by
  rcases Nat.lt_or_ge n N with q | q
  · exact q
  · have e : n = N := by omega
    rw [e, hE] at h
    exact absurd h hx
set_option maxHeartbeats 4000000 in
set_option maxRecDepth 100000 in
theorem k_X2_tellCopies {X : Cx} {l : Launch} {σ0 : Hp} {t h : Rg} {n N : Nat} (hv3 : Lv X 3 0) (hv1 : Lv X 1 1) (hE : t 2 N = nI 0) (hN : N ≤ 80) (hn : n ≤ N) : Con X l yX2_tellCopies cX2_tellCopies 2 (some .boolean) 1 [.ref (adr X 3 0 0), .ref (adr X 1 1 0)] (setR (setR σ0 1 1 h) 3 0 (tk t n)) (Ex (some (.int (tcS t h n).1)) (setR (setR σ0 1 1 (tcS t h n).2.2) 3 0 (tk t (tcS t h n).2.1))) := by
  refine Con_of [some (.ref (adr X 3 0 0)), some (.ref (adr X 1 1 0))] (by decide) rfl (Nat.le_of_ble_eq_true rfl) ?_
  have h11 : pN t n (nI 2) (nI 4) → n < N → T X l yX2_tellCopies cX2_tellCopies 2 (some .boolean) 1 11 [some (.ref (adr X 3 0 0)), some (.ref (adr X 1 1 0))] [] (setR (setR σ0 1 1 h) 3 0 (tk t (n + 1))) (Ex (some (.int (tcS t h n).1)) (setR (setR σ0 1 1 (tcS t h n).2.2) 3 0 (tk t (tcS t h n).2.1))) := by
    intro b hlt
    refine T_aload_n dX2_tellCopies_11 rfl rfl ?_
    refine T_aload_n dX2_tellCopies_12 rfl rfl ?_
    refine T_g3F hv3 4 (by decide) fl_X2_26 rfl dX2_tellCopies_13 ?_
    refine T_aload_n dX2_tellCopies_16 rfl rfl ?_
    refine T_g3F hv3 5 (by decide) fl_X2_29 rfl dX2_tellCopies_17 ?_
    refine T_iconst (v := nI 1) dX2_tellCopies_20 rfl ?_
    refine T_isub dX2_tellCopies_21 ?_
    rw [tk_05, pk_sub (a := n + 1) (b := 1) (Nat.succ_le_succ (Nat.zero_le n)), Nat.add_sub_cancel]
    refine T_ialdF (hv3 _ (by decide)) rfl (Nat.le_of_ble_eq_true rfl) _ (by omega) rfl dX2_tellCopies_22 ?_
    refine T_p1S hv1 0 (by decide) rfl rfl fl_X2_62 (by decide) rfl dX2_tellCopies_23 ?_
    refine T_aload_n dX2_tellCopies_26 rfl rfl ?_
    refine T_iconst (v := nI 4) dX2_tellCopies_27 rfl ?_
    refine T_vi (Rc_of (hv3 0 (by decide)) rfl rfl) (k_X2_passKind hv3 (by omega)) ml_X2_47 im_yX2_passKind se_RX2_yX2_passKind ini_RX2 co_yX2_passKind rfl de_X2_passKind (by decide) (by decide) rfl (Nat.le_of_ble_eq_true rfl) dX2_tellCopies_28 ?_
    by_cases h4 : t 2 (n + 1) = nI 4
    · rw [if_pos h4, if_pos h4]
      refine T_zret (ty := .boolean) rfl (by decide) dX2_tellCopies_31 ?_
      exact ⟨by rw [tcS, if_pos b, if_pos h4], by rw [tcS, if_pos b, if_pos h4]; rfl⟩
    · rw [if_neg h4, if_neg h4]
      refine T_zret (ty := .boolean) rfl (by decide) dX2_tellCopies_31 ?_
      exact ⟨by rw [tcS, if_pos b, if_neg h4], by rw [tcS, if_pos b, if_neg h4]; rfl⟩
  refine T_aload_n dX2_tellCopies_0 rfl rfl ?_
  refine T_iconst (v := nI 2) dX2_tellCopies_1 rfl ?_
  refine T_iconst (v := nI 4) dX2_tellCopies_2 rfl ?_
  refine T_vi (Rc_of (hv3 0 (by decide)) rfl rfl) (k_X2_passNumber hv3 (by omega)) ml_X2_58 im_yX2_passNumber se_RX2_yX2_passNumber ini_RX2 co_yX2_passNumber rfl de_X2_passNumber (by decide) (by decide) rfl (Nat.le_of_ble_eq_true rfl) dX2_tellCopies_3 ?_
  refine T_if_ne 11 dX2_tellCopies_6 (by decide) (fun h6 => ?_) (fun h6 => ?_)
  · have b := b01_1 h6
    have hlt := tok_lt hE hn b.1 ne03
    rw [if_pos b]
    exact h11 b hlt
  · refine T_iconst (v := nI 0) dX2_tellCopies_9 rfl ?_
    refine T_zret (ty := .boolean) rfl (by decide) dX2_tellCopies_10 ?_
    have b := b01_0 h6
    exact ⟨by rw [tcS, if_neg b], by rw [tcS, if_neg b, if_neg b]⟩
set_option maxHeartbeats 4000000 in
set_option maxRecDepth 100000 in
theorem k_X2_tellBounds {X : Cx} {l : Launch} {σ0 : Hp} {t h : Rg} {n N : Nat} (hv3 : Lv X 3 0) (hv1 : Lv X 1 1) (hE : t 2 N = nI 0) (hN : N ≤ 80) (hn : n ≤ N) (hw : Wf h) : Con X l yX2_tellBounds cX2_tellBounds 3 (some .boolean) 1 [.ref (adr X 3 0 0), .ref (adr X 1 1 0)] (setR (setR σ0 1 1 h) 3 0 (tk t n)) (Ex (some (.int (tbS t h n).1)) (setR (setR σ0 1 1 (tbS t h n).2.2) 3 0 (tk t (tbS t h n).2.1))) := by
  refine Con_of [some (.ref (adr X 3 0 0)), some (.ref (adr X 1 1 0)), none] (by decide) rfl (Nat.le_of_ble_eq_true rfl) ?_
  have h56 : pN t n (nI 0) (h 0 0 - nI 1) → pN t (n + 1) (nI 0) (nI 99) → pN t (n + 2) (nI 0) (nI 9) → pN t (n + 3) (nI 0) (nI 99) → n + 4 ≤ N → T X l yX2_tellBounds cX2_tellBounds 3 (some .boolean) 1 56 [some (.ref (adr X 3 0 0)), some (.ref (adr X 1 1 0)), some (.int (nI 1))] [] (setR (setR σ0 1 1 h) 3 0 (tk t (n + 4))) (Ex (some (.int (tbS t h n).1)) (setR (setR σ0 1 1 (tbS t h n).2.2) 3 0 (tk t (tbS t h n).2.1))) := by
    intro b0 b1 b2 b3 hlt
    have hc4 := hw.2.2.1
    have hc2 := hw.2.1
    obtain ⟨j, hj4, hj⟩ : ∃ j, j < 4 ∧ t 4 n = nI j := by
      obtain ⟨j, hj, e⟩ := nI_of2 (M := h 0 0 - nI 1) (n := nC h - 1) (by rw [hw.1, pk_sub (by omega), nI_toInt (by omega)]) b0.2.1 b0.2.2
      exact ⟨j, by omega, e⟩
    have hj2 : (t 4 n).toNatClampNeg = j := by rw [hj, nI_clamp (by omega)]
    refine T_aload_n dX2_tellBounds_56 rfl rfl ?_
    refine T_aload_n dX2_tellBounds_57 rfl rfl ?_
    refine T_g3F hv3 4 (by decide) fl_X2_26 rfl dX2_tellBounds_58 ?_
    refine T_aload_n dX2_tellBounds_61 rfl rfl ?_
    refine T_g3F hv3 5 (by decide) fl_X2_29 rfl dX2_tellBounds_62 ?_
    refine T_iconst (v := nI 4) dX2_tellBounds_65 rfl ?_
    refine T_isub dX2_tellBounds_66 ?_
    rw [tk_05, pk_sub (a := n + 4) (b := 4) (by omega), show n + 4 - 4 = n by omega]
    refine T_ialdF (hv3 _ (by decide)) rfl (Nat.le_of_ble_eq_true rfl) n (by omega) rfl dX2_tellBounds_67 ?_
    show T X l yX2_tellBounds cX2_tellBounds 3 (some .boolean) 1 68 [some (.ref (adr X 3 0 0)), some (.ref (adr X 1 1 0)), some (.int (nI 1))] [.int (t 4 n), .ref (adr X 1 1 0)] (setR (setR σ0 1 1 h) 3 0 (tk t (n + 4))) (Ex (some (.int (tbS t h n).1)) (setR (setR σ0 1 1 (tbS t h n).2.2) 3 0 (tk t (tbS t h n).2.1)))
    rw [hj]
    refine T_aload_n dX2_tellBounds_68 rfl rfl ?_
    refine T_g3F hv3 4 (by decide) fl_X2_26 rfl dX2_tellBounds_69 ?_
    refine T_aload_n dX2_tellBounds_72 rfl rfl ?_
    refine T_g3F hv3 5 (by decide) fl_X2_29 rfl dX2_tellBounds_73 ?_
    refine T_iconst (v := nI 3) dX2_tellBounds_76 rfl ?_
    refine T_isub dX2_tellBounds_77 ?_
    rw [tk_05, pk_sub (a := n + 4) (b := 3) (by omega), show n + 4 - 3 = n + 1 by omega]
    refine T_ialdF (hv3 _ (by decide)) rfl (Nat.le_of_ble_eq_true rfl) _ (by omega) rfl dX2_tellBounds_78 ?_
    refine T_aload_n dX2_tellBounds_79 rfl rfl ?_
    refine T_g3F hv3 4 (by decide) fl_X2_26 rfl dX2_tellBounds_80 ?_
    refine T_aload_n dX2_tellBounds_83 rfl rfl ?_
    refine T_g3F hv3 5 (by decide) fl_X2_29 rfl dX2_tellBounds_84 ?_
    refine T_iconst (v := nI 2) dX2_tellBounds_87 rfl ?_
    refine T_isub dX2_tellBounds_88 ?_
    rw [tk_05, pk_sub (a := n + 4) (b := 2) (by omega), show n + 4 - 2 = n + 2 by omega]
    refine T_ialdF (hv3 _ (by decide)) rfl (Nat.le_of_ble_eq_true rfl) _ (by omega) rfl dX2_tellBounds_89 ?_
    refine T_aload_n dX2_tellBounds_90 rfl rfl ?_
    refine T_g3F hv3 4 (by decide) fl_X2_26 rfl dX2_tellBounds_91 ?_
    refine T_aload_n dX2_tellBounds_94 rfl rfl ?_
    refine T_g3F hv3 5 (by decide) fl_X2_29 rfl dX2_tellBounds_95 ?_
    refine T_iconst (v := nI 1) dX2_tellBounds_98 rfl ?_
    refine T_isub dX2_tellBounds_99 ?_
    rw [tk_05, pk_sub (a := n + 4) (b := 1) (by omega), show n + 4 - 1 = n + 3 by omega]
    refine T_ialdF (hv3 _ (by decide)) rfl (Nat.le_of_ble_eq_true rfl) _ (by omega) rfl dX2_tellBounds_100 ?_
    refine T_vv (Rc_of (hv1 0 (by decide)) rfl rfl) (con_s2 (k_X1_setBounds hv1 hj4)) ml_X2_65 im_yX1_setBounds se_RX1_yX1_setBounds ini_RX1 co_yX1_setBounds rfl de_X1_setBounds (by decide) (by decide) rfl (Nat.le_of_ble_eq_true rfl) dX2_tellBounds_101 ?_
    refine T_aload_n dX2_tellBounds_104 rfl rfl ?_
    refine T_iconst (v := nI 4) dX2_tellBounds_105 rfl ?_
    refine T_vi (Rc_of (hv3 0 (by decide)) rfl rfl) (k_X2_passKind hv3 (by omega)) ml_X2_47 im_yX2_passKind se_RX2_yX2_passKind ini_RX2 co_yX2_passKind rfl de_X2_passKind (by decide) (by decide) rfl (Nat.le_of_ble_eq_true rfl) dX2_tellBounds_106 ?_
    by_cases h4 : t 2 (n + 4) = nI 4
    · rw [if_pos h4, if_pos h4]
      refine T_zret (ty := .boolean) rfl (by decide) dX2_tellBounds_109 ?_
      exact ⟨by rw [tbS, if_pos b0, if_pos b1, if_pos b2, if_pos b3, if_pos h4], by rw [tbS, if_pos b0, if_pos b1, if_pos b2, if_pos b3, if_pos h4, hj2]; rfl⟩
    · rw [if_neg h4, if_neg h4]
      refine T_zret (ty := .boolean) rfl (by decide) dX2_tellBounds_109 ?_
      exact ⟨by rw [tbS, if_pos b0, if_pos b1, if_pos b2, if_pos b3, if_neg h4], by rw [tbS, if_pos b0, if_pos b1, if_pos b2, if_pos b3, if_neg h4, hj2]; rfl⟩
  refine T_aload_n dX2_tellBounds_0 rfl rfl ?_
  refine T_iconst (v := nI 0) dX2_tellBounds_1 rfl ?_
  refine T_aload_n dX2_tellBounds_2 rfl rfl ?_
  refine T_g1S hv1 0 (by decide) fl_X2_62 rfl dX2_tellBounds_3 ?_
  refine T_iconst (v := nI 1) dX2_tellBounds_6 rfl ?_
  refine T_isub dX2_tellBounds_7 ?_
  refine T_vi (Rc_of (hv3 0 (by decide)) rfl rfl) (k_X2_passNumber hv3 (by omega)) ml_X2_58 im_yX2_passNumber se_RX2_yX2_passNumber ini_RX2 co_yX2_passNumber rfl de_X2_passNumber (by decide) (by decide) rfl (Nat.le_of_ble_eq_true rfl) dX2_tellBounds_8 ?_
  refine T_if_eq 48 dX2_tellBounds_11 (by decide) (fun h11 => ?_) (fun h11 => ?_)
  · try (have b0 := b01_0 h11; rw [if_neg b0])
    try (have b1 := b01_0 h21; rw [if_neg b1])
    try (have b2 := b01_0 h31; rw [if_neg b2])
    try (have b3 := b01_0 h41; rw [if_neg b3])
    refine T_iconst (v := nI 0) dX2_tellBounds_48 rfl ?_
    refine T_istore2 dX2_tellBounds_49 rfl (by decide) ?_
    refine T_iload_n dX2_tellBounds_50 rfl rfl ?_
    refine T_if_ne 56 dX2_tellBounds_51 (by decide) (fun h51 => ?_) (fun h51 => ?_)
    · first | exact (nope0 h51).elim | exact h56 b0 b1 b2 b3 (by omega)
    · refine T_iconst (v := nI 0) dX2_tellBounds_54 rfl ?_
      refine T_zret (ty := .boolean) rfl (by decide) dX2_tellBounds_55 ?_
      first | exact (nope1 h51).elim | (refine ⟨?_, ?_⟩ <;> rw [tbS, if_neg b0]) | (refine ⟨?_, ?_⟩ <;> rw [tbS, if_pos b0, if_neg b1]) | (refine ⟨?_, ?_⟩ <;> rw [tbS, if_pos b0, if_pos b1, if_neg b2]) | (refine ⟨?_, ?_⟩ <;> rw [tbS, if_pos b0, if_pos b1, if_pos b2, if_neg b3])
  · have b0 := b01_1 h11
    rw [if_pos b0]
    have hl0 := tok_lt hE hn b0.1 ne03
    refine T_aload_n dX2_tellBounds_14 rfl rfl ?_
    refine T_iconst (v := nI 0) dX2_tellBounds_15 rfl ?_
    refine T_bipush (v := nI 99) dX2_tellBounds_16 (by decide) ?_
    refine T_vi (Rc_of (hv3 0 (by decide)) rfl rfl) (k_X2_passNumber hv3 (by omega)) ml_X2_58 im_yX2_passNumber se_RX2_yX2_passNumber ini_RX2 co_yX2_passNumber rfl de_X2_passNumber (by decide) (by decide) rfl (Nat.le_of_ble_eq_true rfl) dX2_tellBounds_18 ?_
    refine T_if_eq 48 dX2_tellBounds_21 (by decide) (fun h21 => ?_) (fun h21 => ?_)
    · try (have b0 := b01_0 h11; rw [if_neg b0])
      try (have b1 := b01_0 h21; rw [if_neg b1])
      try (have b2 := b01_0 h31; rw [if_neg b2])
      try (have b3 := b01_0 h41; rw [if_neg b3])
      refine T_iconst (v := nI 0) dX2_tellBounds_48 rfl ?_
      refine T_istore2 dX2_tellBounds_49 rfl (by decide) ?_
      refine T_iload_n dX2_tellBounds_50 rfl rfl ?_
      refine T_if_ne 56 dX2_tellBounds_51 (by decide) (fun h51 => ?_) (fun h51 => ?_)
      · first | exact (nope0 h51).elim | exact h56 b0 b1 b2 b3 (by omega)
      · refine T_iconst (v := nI 0) dX2_tellBounds_54 rfl ?_
        refine T_zret (ty := .boolean) rfl (by decide) dX2_tellBounds_55 ?_
        first | exact (nope1 h51).elim | (refine ⟨?_, ?_⟩ <;> rw [tbS, if_neg b0]) | (refine ⟨?_, ?_⟩ <;> rw [tbS, if_pos b0, if_neg b1]) | (refine ⟨?_, ?_⟩ <;> rw [tbS, if_pos b0, if_pos b1, if_neg b2]) | (refine ⟨?_, ?_⟩ <;> rw [tbS, if_pos b0, if_pos b1, if_pos b2, if_neg b3])
    · have b1 := b01_1 h21
      rw [if_pos b1]
      have hl1 := tok_lt hE (show n + 1 ≤ N by omega) b1.1 ne03
      refine T_aload_n dX2_tellBounds_24 rfl rfl ?_
      refine T_iconst (v := nI 0) dX2_tellBounds_25 rfl ?_
      refine T_bipush (v := nI 9) dX2_tellBounds_26 (by decide) ?_
      refine T_vi (Rc_of (hv3 0 (by decide)) rfl rfl) (k_X2_passNumber hv3 (by omega)) ml_X2_58 im_yX2_passNumber se_RX2_yX2_passNumber ini_RX2 co_yX2_passNumber rfl de_X2_passNumber (by decide) (by decide) rfl (Nat.le_of_ble_eq_true rfl) dX2_tellBounds_28 ?_
      refine T_if_eq 48 dX2_tellBounds_31 (by decide) (fun h31 => ?_) (fun h31 => ?_)
      · try (have b0 := b01_0 h11; rw [if_neg b0])
        try (have b1 := b01_0 h21; rw [if_neg b1])
        try (have b2 := b01_0 h31; rw [if_neg b2])
        try (have b3 := b01_0 h41; rw [if_neg b3])
        refine T_iconst (v := nI 0) dX2_tellBounds_48 rfl ?_
        refine T_istore2 dX2_tellBounds_49 rfl (by decide) ?_
        refine T_iload_n dX2_tellBounds_50 rfl rfl ?_
        refine T_if_ne 56 dX2_tellBounds_51 (by decide) (fun h51 => ?_) (fun h51 => ?_)
        · first | exact (nope0 h51).elim | exact h56 b0 b1 b2 b3 (by omega)
        · refine T_iconst (v := nI 0) dX2_tellBounds_54 rfl ?_
          refine T_zret (ty := .boolean) rfl (by decide) dX2_tellBounds_55 ?_
          first | exact (nope1 h51).elim | (refine ⟨?_, ?_⟩ <;> rw [tbS, if_neg b0]) | (refine ⟨?_, ?_⟩ <;> rw [tbS, if_pos b0, if_neg b1]) | (refine ⟨?_, ?_⟩ <;> rw [tbS, if_pos b0, if_pos b1, if_neg b2]) | (refine ⟨?_, ?_⟩ <;> rw [tbS, if_pos b0, if_pos b1, if_pos b2, if_neg b3])
      · have b2 := b01_1 h31
        rw [if_pos b2]
        have hl2 := tok_lt hE (show n + 2 ≤ N by omega) b2.1 ne03
        refine T_aload_n dX2_tellBounds_34 rfl rfl ?_
        refine T_iconst (v := nI 0) dX2_tellBounds_35 rfl ?_
        refine T_bipush (v := nI 99) dX2_tellBounds_36 (by decide) ?_
        refine T_vi (Rc_of (hv3 0 (by decide)) rfl rfl) (k_X2_passNumber hv3 (by omega)) ml_X2_58 im_yX2_passNumber se_RX2_yX2_passNumber ini_RX2 co_yX2_passNumber rfl de_X2_passNumber (by decide) (by decide) rfl (Nat.le_of_ble_eq_true rfl) dX2_tellBounds_38 ?_
        refine T_if_eq 48 dX2_tellBounds_41 (by decide) (fun h41 => ?_) (fun h41 => ?_)
        · try (have b0 := b01_0 h11; rw [if_neg b0])
          try (have b1 := b01_0 h21; rw [if_neg b1])
          try (have b2 := b01_0 h31; rw [if_neg b2])
          try (have b3 := b01_0 h41; rw [if_neg b3])
          refine T_iconst (v := nI 0) dX2_tellBounds_48 rfl ?_
          refine T_istore2 dX2_tellBounds_49 rfl (by decide) ?_
          refine T_iload_n dX2_tellBounds_50 rfl rfl ?_
          refine T_if_ne 56 dX2_tellBounds_51 (by decide) (fun h51 => ?_) (fun h51 => ?_)
          · first | exact (nope0 h51).elim | exact h56 b0 b1 b2 b3 (by omega)
          · refine T_iconst (v := nI 0) dX2_tellBounds_54 rfl ?_
            refine T_zret (ty := .boolean) rfl (by decide) dX2_tellBounds_55 ?_
            first | exact (nope1 h51).elim | (refine ⟨?_, ?_⟩ <;> rw [tbS, if_neg b0]) | (refine ⟨?_, ?_⟩ <;> rw [tbS, if_pos b0, if_neg b1]) | (refine ⟨?_, ?_⟩ <;> rw [tbS, if_pos b0, if_pos b1, if_neg b2]) | (refine ⟨?_, ?_⟩ <;> rw [tbS, if_pos b0, if_pos b1, if_pos b2, if_neg b3])
        · have b3 := b01_1 h41
          rw [if_pos b3]
          have hl3 := tok_lt hE (show n + 3 ≤ N by omega) b3.1 ne03
          refine T_iconst (v := nI 1) dX2_tellBounds_44 rfl ?_
          refine T_goto 49 dX2_tellBounds_45 (by decide) ?_
          refine T_istore2 dX2_tellBounds_49 rfl (by decide) ?_
          refine T_iload_n dX2_tellBounds_50 rfl rfl ?_
          refine T_if_ne 56 dX2_tellBounds_51 (by decide) (fun h51 => ?_) (fun h51 => ?_)
          · first | exact (nope0 h51).elim | exact h56 b0 b1 b2 b3 (by omega)
          · refine T_iconst (v := nI 0) dX2_tellBounds_54 rfl ?_
            refine T_zret (ty := .boolean) rfl (by decide) dX2_tellBounds_55 ?_
            first | exact (nope1 h51).elim | (refine ⟨?_, ?_⟩ <;> rw [tbS, if_neg b0]) | (refine ⟨?_, ?_⟩ <;> rw [tbS, if_pos b0, if_neg b1]) | (refine ⟨?_, ?_⟩ <;> rw [tbS, if_pos b0, if_pos b1, if_neg b2]) | (refine ⟨?_, ?_⟩ <;> rw [tbS, if_pos b0, if_pos b1, if_pos b2, if_neg b3])
