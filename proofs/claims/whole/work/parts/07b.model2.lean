/-- two cells that the machine can't tell apart -/
def ceq (e e' : va_E) : Prop := e = e' ∨ ∃ (c : ClassId) (n : Nat) (f f' : Nat → Int32), e = .inl (c, n, .inl f) ∧ e' = .inl (c, n, .inl f') ∧ ∀ j, j < n → f j = f' j
theorem T_re2 {X : Cx} {l : Launch} {y : MethodName} {cc : ByteArray} {nL : Nat} {ret : Option FieldType} {d pc : Nat} {ls : List (Option Value)} {st : List Value} {σ σ' : Hp} {Q : Option Value → Hp → Prop} (h : ∀ K r k, (K, r, k) ∈ ids X → k < ncel K → ceq (cel X (σ K r k) K r k) (cel X (σ' K r k) K r k)) (kk : T X l y cc nL ret d pc ls st σ' Q) : T X l y cc nL ret d pc ls st σ Q := by
  intro p e s m args below meth c H locs lsA hF hP hS hl
  refine kk p e s m args below meth c H locs lsA hF ?_ hS hl
  have hk := hF.2.2.2.2.2.2.2.1.2.2.2.2.2.2.2
  intro i q hq
  unfold wl at hq
  rw [List.getElem?_map] at hq
  cases hi : (ids X)[i]? with
  | none => rw [hi] at hq; cases hq
  | some z =>
    rw [hi] at hq
    cases hq
    have h0 := hP i (adr X z.1 z.2.1 z.2.2, cel X (σ z.1 z.2.1 z.2.2) z.1 z.2.1 z.2.2) (by unfold wl; rw [List.getElem?_map, hi]; rfl)
    have hz := List.mem_of_getElem? hi
    show va_at X.1 vwCl (adr X z.1 z.2.1 z.2.2, cel X (σ' z.1 z.2.1 z.2.2) z.1 z.2.1 z.2.2) H
    rcases h z.1 z.2.1 z.2.2 hz (hk z hz) with e1 | ⟨c0, n, f, f', e1, e2, e3⟩
    · rw [← e1]; exact h0
    · rw [e1] at h0
      rw [e2]
      have h0 : H[adr X z.1 z.2.1 z.2.2]? = some (vp_cell c0 (n, .inl f)) := h0
      show H[adr X z.1 z.2.1 z.2.2]? = some (vp_cell c0 (n, .inl f'))
      rw [h0, vp_cell_i, vp_cell_i]
      unfold arrV
      congr 3
      funext j
      exact congrArg Value.int (e3 j.val j.isLt)
theorem up1_comm (h : Rg) {a b : Nat} (hab : ¬ a = b) (f g : Nat → Int32) : up1 (up1 h a f) b g = up1 (up1 h b g) a f := by
  funext k
  unfold up1
  by_cases h1 : k = b
  · rw [if_pos h1, if_neg (by omega), if_pos h1]
  · rw [if_neg h1, if_neg h1]
theorem up1_up1 (h : Rg) (a : Nat) (f g : Nat → Int32) : up1 (up1 h a f) a g = up1 h a g := by
  funext k
  unfold up1
  split <;> rfl
def rk (a c : Nat) : Nat := if a < c then c - 1 else c
theorem rk_0 (a : Nat) : rk a 0 = 0 := by unfold rk; rw [if_neg (by omega)]
theorem rk_s {a c : Nat} (h : ¬ c = a) : rk a (c + 1) = rk a c + 1 := by
  unfold rk
  by_cases h1 : a < c
  · rw [if_pos h1, if_pos (by omega)]; omega
  · rw [if_neg h1, if_neg (by omega)]
theorem rk_e {a c : Nat} (h : c = a) : rk a (c + 1) = rk a c := by
  unfold rk
  rw [h, if_pos (by omega), if_neg (by omega)]; omega
theorem sub_0 (x : Int32) : x - nI 0 = x := Int32.sub_zero x
theorem sub_s (x : Int32) (r : Nat) : x - nI r + Int32.ofInt (-1) = x - nI (r + 1) := by
  rw [nI_succ, Int32.sub_eq_add_neg, Int32.sub_eq_add_neg, Int32.neg_add, Int32.sub_eq_add_neg, Int32.add_assoc]
  rfl
def mSh (n : Nat) (t : Int32) (a c : Nat) : Int32 := t / nI (n - 1) + (if 0 < t - t / nI (n - 1) * nI (n - 1) - nI (rk a c) then nI 1 else nI 0)
def sbS (b : Nat → Int32) (a : Nat) : Nat → (Nat → Int32)
  | 0 => b
  | c + 1 => if c = a then sbS b a c else upd (sbS b a c) (111 + 4 * c + a) (mSh (mC b) (b (2 + 3 * a)) a c)
def sbA (b : Nat → Int32) : Nat → (Nat → Int32)
  | 0 => b
  | a + 1 => sbS (sbA b a) a (mC b)
theorem sbS_lo (b : Nat → Int32) (a : Nat) {j : Nat} (hj : j < 111) : ∀ n, sbS b a n j = b j
  | 0 => rfl
  | n + 1 => by
    rw [sbS]
    split
    · exact sbS_lo b a hj n
    · rw [upd_ne (by omega)]; exact sbS_lo b a hj n
theorem sbA_lo (b : Nat → Int32) {j : Nat} (hj : j < 111) : ∀ n, sbA b n j = b j
  | 0 => rfl
  | n + 1 => by rw [sbA, sbS_lo _ _ hj]; exact sbA_lo b hj n
def shT (H : Nat → Int32) (n : Nat) : Nat → Int32 := fun x => if x < n then H (x + 127) else H x
theorem shT_s (H : Nat → Int32) (n : Nat) : upd (shT H n) n (H (n + 127)) = shT H (n + 1) := by
  funext x
  unfold upd shT
  by_cases h : x = n
  · rw [if_pos h, if_pos (by omega), h]
  · rw [if_neg h]
    by_cases h2 : x < n
    · rw [if_pos h2, if_pos (by omega)]
    · rw [if_neg h2, if_neg (by omega)]
theorem shT_0 (H : Nat → Int32) : shT H 0 = H := by
  funext x; unfold shT; rw [if_neg (by omega)]
def sv1 (n : Nat) : Nat := if n = 8 then 7 else n
/-- the model's other cells behind save, with n saved before -/
def svR (h : Rg) (m : Nat → Int32) (n : Nat) : Rg := up2 (up1 h 4 (va_cpy m (if n = 8 then shT (h 4) 889 else h 4) 0 (127 * sv1 n) 127)) 0 4 (nI (sv1 n + 1))
def ExS (x : Int32) (σ0 : Hp) (h : Rg) (m : Nat → Int32) : Option Value → Hp → Prop := fun r u => r = some (.int x) ∧ ∃ s, u = setR σ0 4 0 (up1 (up1 h 3 s) 1 m)
/-- a new text's start -/
def bgL (b : Nat → Int32) : Nat → (Nat → Int32)
  | 0 => b
  | c + 1 => upd (upd (upd (bgL b c) (2 + 3 * c) (nI 99)) (2 + 3 * c + 1) (nI 9)) (2 + 3 * c + 2) (nI 99)
def bgS (g : Nat → Int32) : Nat → Int32 := bgL (upd (fillT g (nI 0) 127) 0 (nI 3)) 4

set_option maxHeartbeats 4000000 in
set_option maxRecDepth 100000 in
theorem k_X4_copyState {X : Cx} {l : Launch} {σ0 : Hp} {h : Rg} {p q np nq i j : Nat} (hip : (4, 0, p) ∈ ids X) (hiq : (4, 0, q) ∈ ids X) (hcp : ∀ g : Nat → Int32, cel X g 4 0 p = arI X 0 np g) (hcq : ∀ g : Nat → Int32, cel X g 4 0 q = arI X 0 nq g) (hpq : ¬ p = q) (hi : i + 127 ≤ np) (hj : j + 127 ≤ nq) (hnp : np < 2000) (hnq : nq < 2000) : Con X l yX4_copyState cX4_copyState 5 none 0 [.ref (adr X 4 0 p), .int (nI i), .ref (adr X 4 0 q), .int (nI j)] (setR σ0 4 0 h) (Ex none (setR σ0 4 0 (up1 h q (va_cpy (h p) (h q) i j 127)))) := by
  refine Con_of [some (.ref (adr X 4 0 p)), some (.int (nI i)), some (.ref (adr X 4 0 q)), some (.int (nI j)), none] (by decide) rfl (Nat.le_of_ble_eq_true rfl) ?_
  have hlp : ∀ (n k : Nat), k + n = 127 → T X l yX4_copyState cX4_copyState 5 none 0 3 [some (.ref (adr X 4 0 p)), some (.int (nI i)), some (.ref (adr X 4 0 q)), some (.int (nI j)), some (.int (nI k))] [] (setR σ0 4 0 (up1 h q (va_cpy (h p) (h q) i j k))) (Ex none (setR σ0 4 0 (up1 h q (va_cpy (h p) (h q) i j 127)))) := by
    intro n
    induction n with
    | zero =>
      intro k hk
      have hk : k = 127 := by omega
      subst hk
      refine T_iload dX4_copyState_3 rfl ?_
      refine T_bipush (v := nI 127) dX4_copyState_5 (by decide) ?_
      refine T_icmp_ge 28 dX4_copyState_7 (by decide) (fun h7 => ?_) (fun h7 => (absurd (nI_le (Nat.le_refl _) (by omega)) h7))
      refine T_vret rfl dX4_copyState_28 ?_
      exact ⟨rfl, rfl⟩
    | succ n ih =>
      intro k hk
      have hnx := ih (k + 1) (by omega)
      have hk : k < 127 := by omega
      refine T_iload dX4_copyState_3 rfl ?_
      refine T_bipush (v := nI 127) dX4_copyState_5 (by decide) ?_
      refine T_icmp_ge 28 dX4_copyState_7 (by decide) (fun h7 => (absurd h7 (nI_ge hk (by omega)))) (fun h7 => ?_)
      refine T_aload_n dX4_copyState_10 rfl rfl ?_
      refine T_iload_n dX4_copyState_11 rfl rfl ?_
      refine T_iload dX4_copyState_12 rfl ?_
      first | refine T_iaddN dX4_copyState_14 ?_ | refine T_iadd dX4_copyState_14 ?_
      refine T_aload_n dX4_copyState_15 rfl rfl ?_
      refine T_iload_n dX4_copyState_16 rfl rfl ?_
      refine T_iload dX4_copyState_17 rfl ?_
      first | refine T_iaddN dX4_copyState_19 ?_ | refine T_iadd dX4_copyState_19 ?_
      refine T_iald (g := h p) (by rw [setR_self, up1_ne hpq]) hip (hcp _) (by omega) _ (by omega) rfl dX4_copyState_20 ?_
      refine T_iastF hiq hcq (by omega) _ (by omega) rfl dX4_copyState_21 ?_
      first | refine T_iincN4 dX4_copyState_22 rfl (by decide) ?_ | refine T_iinc4 dX4_copyState_22 rfl rfl (by decide) ?_
      refine T_goto 3 dX4_copyState_25 (by decide) ?_
      rw [up2_of1, cpy_succ]
      exact hnx
  refine T_iconst (v := nI 0) dX4_copyState_0 rfl ?_
  refine T_istore4 dX4_copyState_1 rfl (by decide) ?_
  have h0 := hlp 127 0 (by omega)
  rw [cpy_0, up1_id] at h0
  exact h0
set_option maxHeartbeats 4000000 in
set_option maxRecDepth 100000 in
theorem k_X4_setBudgetsFor {X : Cx} {l : Launch} {σ0 : Hp} {h : Rg} {b : Nat → Int32} {q a : Nat} (hiq : (4, 0, q) ∈ ids X) (hcq : ∀ g : Nat → Int32, cel X g 4 0 q = arI X 0 127 g) (hw : Wm b) (ha : a < 4) : Con X l yX4_setBudgetsFor cX4_setBudgetsFor 6 none 0 [.ref (adr X 4 0 q), .int (nI a)] (setR σ0 4 0 (up1 h q b)) (Ex none (setR σ0 4 0 (up1 h q (sbS b a (mC b))))) := by
  refine Con_of [some (.ref (adr X 4 0 q)), some (.int (nI a)), none, none, none, none] (by decide) rfl (Nat.le_of_ble_eq_true rfl) ?_
  have hC := hw.2.2.1
  have hC2 := hw.2.1
  have hz : ¬ nI (mC b - 1) = 0 := nI_ne0 (by omega) (by omega)
  have e2 : b 0 - nI 1 = nI (mC b - 1) := by rw [hw.1, pk_sub (by omega)]
  have hck : ∀ k, sbS b a k 0 = nI (mC b) := fun k => by rw [sbS_lo _ _ (by decide)]; exact hw.1
  have hlp : ∀ (n k : Nat), k + n = mC b → T X l yX4_setBudgetsFor cX4_setBudgetsFor 6 none 0 22 [some (.ref (adr X 4 0 q)), some (.int (nI a)), some (.int (nI (mC b - 1))), some (.int (b (2 + 3 * a))), some (.int ((b (2 + 3 * a) - b (2 + 3 * a) / nI (mC b - 1) * nI (mC b - 1)) - nI (rk a k))), some (.int (nI k))] [] (setR σ0 4 0 (up1 h q (sbS b a k))) (Ex none (setR σ0 4 0 (up1 h q (sbS b a (mC b))))) := by
    intro n
    induction n with
    | zero =>
      intro k hk
      have hk : k = mC b := by omega
      subst hk
      refine T_iload dX4_setBudgetsFor_22 rfl ?_
      refine T_aload_n dX4_setBudgetsFor_24 rfl rfl ?_
      refine T_iconst (v := nI 0) dX4_setBudgetsFor_25 rfl ?_
      refine T_iald (g := sbS b a (mC b)) (by rw [setR_self, up1_same]) hiq (hcq _) (by decide) _ (by omega) rfl dX4_setBudgetsFor_26 ?_
      refine T_icmp_ge 70 dX4_setBudgetsFor_27 (by decide) (fun h27 => ?_) (fun h27 => (absurd (by rw [hck]; exact nI_le (Nat.le_refl _) (by omega)) h27))
      refine T_vret rfl dX4_setBudgetsFor_70 ?_
      exact ⟨rfl, rfl⟩
    | succ n ih =>
      intro k hk
      have hnx := ih (k + 1) (by omega)
      have hk : k < mC b := by omega
      refine T_iload dX4_setBudgetsFor_22 rfl ?_
      refine T_aload_n dX4_setBudgetsFor_24 rfl rfl ?_
      refine T_iconst (v := nI 0) dX4_setBudgetsFor_25 rfl ?_
      refine T_iald (g := sbS b a k) (by rw [setR_self, up1_same]) hiq (hcq _) (by decide) _ (by omega) rfl dX4_setBudgetsFor_26 ?_
      refine T_icmp_ge 70 dX4_setBudgetsFor_27 (by decide) (fun h27 => (absurd ((hck k) ▸ h27) (nI_ge hk (by omega)))) (fun h27 => ?_)
      refine T_iload dX4_setBudgetsFor_30 rfl ?_
      refine T_iload_n dX4_setBudgetsFor_32 rfl rfl ?_
      refine T_icmp_eq 64 dX4_setBudgetsFor_33 (by decide) (fun h33 => ?_) (fun h33 => ?_)
      · first | refine T_iincN5 dX4_setBudgetsFor_64 rfl (by decide) ?_ | refine T_iinc5 dX4_setBudgetsFor_64 rfl rfl (by decide) ?_
        refine T_goto 22 dX4_setBudgetsFor_67 (by decide) ?_
        first | (rw [sbS, if_pos (nIe h33 (by omega) (by omega)), rk_e (nIe h33 (by omega) (by omega))] at hnx; exact hnx) | (rw [sbS, if_neg (nIn h33), rk_s (nIn h33), mSh, if_neg (Int32.not_lt.mpr h51)] at hnx; rw [sub_s, up2_of1]; exact hnx) | (rw [sbS, if_neg (nIn h33), rk_s (nIn h33), mSh, if_pos (Int32.not_le.mp h51)] at hnx; rw [sub_s, up2_of1]; exact hnx)
      · refine T_aload_n dX4_setBudgetsFor_36 rfl rfl ?_
        refine T_bipush (v := nI 111) dX4_setBudgetsFor_37 (by decide) ?_
        refine T_iconst (v := nI 4) dX4_setBudgetsFor_39 rfl ?_
        refine T_iload dX4_setBudgetsFor_40 rfl ?_
        first | refine T_imulN dX4_setBudgetsFor_42 ?_ | refine T_imul dX4_setBudgetsFor_42 ?_
        first | refine T_iaddN dX4_setBudgetsFor_43 ?_ | refine T_iadd dX4_setBudgetsFor_43 ?_
        refine T_iload_n dX4_setBudgetsFor_44 rfl rfl ?_
        first | refine T_iaddN dX4_setBudgetsFor_45 ?_ | refine T_iadd dX4_setBudgetsFor_45 ?_
        refine T_iload_n dX4_setBudgetsFor_46 rfl rfl ?_
        refine T_iload_n dX4_setBudgetsFor_47 rfl rfl ?_
        refine T_idiv dX4_setBudgetsFor_48 hz ?_
        refine T_iload dX4_setBudgetsFor_49 rfl ?_
        refine T_if_le 58 dX4_setBudgetsFor_51 (by decide) (fun h51 => ?_) (fun h51 => ?_)
        · refine T_iconst (v := nI 0) dX4_setBudgetsFor_58 rfl ?_
          refine T_iadd dX4_setBudgetsFor_59 ?_
          refine T_iastF hiq hcq (by decide) _ (by omega) rfl dX4_setBudgetsFor_60 ?_
          refine T_iinc4 dX4_setBudgetsFor_61 rfl rfl (by decide) ?_
          first | refine T_iincN5 dX4_setBudgetsFor_64 rfl (by decide) ?_ | refine T_iinc5 dX4_setBudgetsFor_64 rfl rfl (by decide) ?_
          refine T_goto 22 dX4_setBudgetsFor_67 (by decide) ?_
          first | (rw [sbS, if_pos (nIe h33 (by omega) (by omega)), rk_e (nIe h33 (by omega) (by omega))] at hnx; exact hnx) | (rw [sbS, if_neg (nIn h33), rk_s (nIn h33), mSh, if_neg (Int32.not_lt.mpr h51)] at hnx; rw [sub_s, up2_of1]; exact hnx) | (rw [sbS, if_neg (nIn h33), rk_s (nIn h33), mSh, if_pos (Int32.not_le.mp h51)] at hnx; rw [sub_s, up2_of1]; exact hnx)
        · refine T_iconst (v := nI 1) dX4_setBudgetsFor_54 rfl ?_
          refine T_goto 59 dX4_setBudgetsFor_55 (by decide) ?_
          refine T_iadd dX4_setBudgetsFor_59 ?_
          refine T_iastF hiq hcq (by decide) _ (by omega) rfl dX4_setBudgetsFor_60 ?_
          refine T_iinc4 dX4_setBudgetsFor_61 rfl rfl (by decide) ?_
          first | refine T_iincN5 dX4_setBudgetsFor_64 rfl (by decide) ?_ | refine T_iinc5 dX4_setBudgetsFor_64 rfl rfl (by decide) ?_
          refine T_goto 22 dX4_setBudgetsFor_67 (by decide) ?_
          first | (rw [sbS, if_pos (nIe h33 (by omega) (by omega)), rk_e (nIe h33 (by omega) (by omega))] at hnx; exact hnx) | (rw [sbS, if_neg (nIn h33), rk_s (nIn h33), mSh, if_neg (Int32.not_lt.mpr h51)] at hnx; rw [sub_s, up2_of1]; exact hnx) | (rw [sbS, if_neg (nIn h33), rk_s (nIn h33), mSh, if_pos (Int32.not_le.mp h51)] at hnx; rw [sub_s, up2_of1]; exact hnx)
  refine T_aload_n dX4_setBudgetsFor_0 rfl rfl ?_
  refine T_iconst (v := nI 0) dX4_setBudgetsFor_1 rfl ?_
  refine T_iald (g := b) (by rw [setR_self, up1_same]) hiq (hcq _) (by decide) _ (by omega) rfl dX4_setBudgetsFor_2 ?_
  refine T_iconst (v := nI 1) dX4_setBudgetsFor_3 rfl ?_
  refine T_isub dX4_setBudgetsFor_4 ?_
  rw [e2]
  refine T_istore2 dX4_setBudgetsFor_5 rfl (by decide) ?_
  refine T_aload_n dX4_setBudgetsFor_6 rfl rfl ?_
  refine T_iconst (v := nI 2) dX4_setBudgetsFor_7 rfl ?_
  refine T_iconst (v := nI 3) dX4_setBudgetsFor_8 rfl ?_
  refine T_iload_n dX4_setBudgetsFor_9 rfl rfl ?_
  first | refine T_imulN dX4_setBudgetsFor_10 ?_ | refine T_imul dX4_setBudgetsFor_10 ?_
  first | refine T_iaddN dX4_setBudgetsFor_11 ?_ | refine T_iadd dX4_setBudgetsFor_11 ?_
  refine T_iald (g := b) (by rw [setR_self, up1_same]) hiq (hcq _) (by decide) _ (by omega) rfl dX4_setBudgetsFor_12 ?_
  refine T_istore3 dX4_setBudgetsFor_13 rfl (by decide) ?_
  refine T_iload_n dX4_setBudgetsFor_14 rfl rfl ?_
  refine T_iload_n dX4_setBudgetsFor_15 rfl rfl ?_
  refine T_irem dX4_setBudgetsFor_16 hz ?_
  refine T_istore4 dX4_setBudgetsFor_17 rfl (by decide) ?_
  refine T_iconst (v := nI 0) dX4_setBudgetsFor_19 rfl ?_
  refine T_istore5 dX4_setBudgetsFor_20 rfl (by decide) ?_
  have h0 := hlp (mC b) 0 (by omega)
  rw [rk_0, sub_0] at h0
  exact h0
set_option maxHeartbeats 4000000 in
set_option maxRecDepth 100000 in
theorem k_X4_setBudgets {X : Cx} {l : Launch} {σ0 : Hp} {h : Rg} {b : Nat → Int32} {q : Nat} (hiq : (4, 0, q) ∈ ids X) (hcq : ∀ g : Nat → Int32, cel X g 4 0 q = arI X 0 127 g) (hw : Wm b) : Con X l yX4_setBudgets cX4_setBudgets 2 none 1 [.ref (adr X 4 0 q)] (setR σ0 4 0 (up1 h q b)) (Ex none (setR σ0 4 0 (up1 h q (sbA b (mC b))))) := by
  refine Con_of [some (.ref (adr X 4 0 q)), none] (by decide) rfl (Nat.le_of_ble_eq_true rfl) ?_
  have hC := hw.2.2.1
  have hwk : ∀ k, Wm (sbA b k) := fun k => hw.congr (sbA_lo _ (by decide) k) (sbA_lo _ (by decide) k)
  have hck : ∀ k, sbA b k 0 = nI (mC b) := fun k => by rw [sbA_lo _ (by decide)]; exact hw.1
  have hlp : ∀ (n k : Nat), k + n = mC b → T X l yX4_setBudgets cX4_setBudgets 2 none 1 2 [some (.ref (adr X 4 0 q)), some (.int (nI k))] [] (setR σ0 4 0 (up1 h q (sbA b k))) (Ex none (setR σ0 4 0 (up1 h q (sbA b (mC b))))) := by
    intro n
    induction n with
    | zero =>
      intro k hk
      have hk : k = mC b := by omega
      subst hk
      refine T_iload_n dX4_setBudgets_2 rfl rfl ?_
      refine T_aload_n dX4_setBudgets_3 rfl rfl ?_
      refine T_iconst (v := nI 0) dX4_setBudgets_4 rfl ?_
      refine T_iald (g := sbA b (mC b)) (by rw [setR_self, up1_same]) hiq (hcq _) (by decide) _ (by omega) rfl dX4_setBudgets_5 ?_
      refine T_icmp_ge 20 dX4_setBudgets_6 (by decide) (fun h6 => ?_) (fun h6 => (absurd (by rw [hck]; exact nI_le (Nat.le_refl _) (by omega)) h6))
      refine T_vret rfl dX4_setBudgets_20 ?_
      exact ⟨rfl, rfl⟩
    | succ n ih =>
      intro k hk
      have hnx := ih (k + 1) (by omega)
      have hk : k < mC b := by omega
      refine T_iload_n dX4_setBudgets_2 rfl rfl ?_
      refine T_aload_n dX4_setBudgets_3 rfl rfl ?_
      refine T_iconst (v := nI 0) dX4_setBudgets_4 rfl ?_
      refine T_iald (g := sbA b k) (by rw [setR_self, up1_same]) hiq (hcq _) (by decide) _ (by omega) rfl dX4_setBudgets_5 ?_
      refine T_icmp_ge 20 dX4_setBudgets_6 (by decide) (fun h6 => (absurd ((hck k) ▸ h6) (nI_ge hk (by omega)))) (fun h6 => ?_)
      refine T_aload_n dX4_setBudgets_9 rfl rfl ?_
      refine T_iload_n dX4_setBudgets_10 rfl rfl ?_
      refine T_sv (k_X4_setBudgetsFor hiq hcq (hwk k) (by omega)) ml_X4_53 sm_yX4_setBudgetsFor ini_RX4 co_yX4_setBudgetsFor de_X4_setBudgetsFor (by decide) (by decide) rfl (Nat.le_of_ble_eq_true rfl) dX4_setBudgets_11 ?_
      first | refine T_iincN1 dX4_setBudgets_14 rfl (by decide) ?_ | refine T_iinc1 dX4_setBudgets_14 rfl rfl (by decide) ?_
      refine T_goto 2 dX4_setBudgets_17 (by decide) ?_
      rw [mC_congr (sbA_lo b (by decide) k)]
      exact hnx
  refine T_iconst (v := nI 0) dX4_setBudgets_0 rfl ?_
  refine T_istore1 dX4_setBudgets_1 rfl (by decide) ?_
  exact hlp (mC b) 0 (by omega)
set_option maxHeartbeats 4000000 in
set_option maxRecDepth 100000 in
theorem k_X4_readCost {X : Cx} {l : Launch} {σ0 : Hp} {h : Rg} {m : Nat → Int32} {a : Nat} (hv4 : Lv X 4 0) (hw : Wm m) (ha : a < 4) : Con X l yX4_readCost cX4_readCost 3 (some .int) 3 [.ref (adr X 4 0 0), .int (nI a)] (setR σ0 4 0 (up1 h 1 m)) (ExS (nI (mRd m a).2) σ0 h m) := by
  refine Con_of [some (.ref (adr X 4 0 0)), some (.int (nI a)), none] (by decide) rfl (Nat.le_of_ble_eq_true rfl) ?_
  refine T_aload_n dX4_readCost_0 rfl rfl ?_
  refine T_g4F hv4 0 (by decide) fl_X4_7 rfl dX4_readCost_1 ?_
  refine T_iconst (v := nI 0) dX4_readCost_4 rfl ?_
  refine T_aload_n dX4_readCost_5 rfl rfl ?_
  refine T_g4F hv4 2 (by decide) fl_X4_16 rfl dX4_readCost_6 ?_
  refine T_iconst (v := nI 0) dX4_readCost_9 rfl ?_
  refine T_sv (k_X4_copyState (hv4 1 (by decide)) (hv4 3 (by decide)) (fun _ => rfl) (fun _ => rfl) (by decide) (by omega) (by omega) (by decide) (by decide)) ml_X4_45 sm_yX4_copyState ini_RX4 co_yX4_copyState de_X4_copyState (by decide) (by decide) rfl (Nat.le_of_ble_eq_true rfl) dX4_readCost_10 ?_
  rw [up1_comm h (by decide : ¬ 1 = 3)]
  refine T_aload_n dX4_readCost_13 rfl rfl ?_
  refine T_iload_n dX4_readCost_14 rfl rfl ?_
  refine T_vi (Rc_of (hv4 0 (by decide)) rfl rfl) (k_X4_readBy hv4 hw (by omega)) ml_X4_155 im_yX4_readBy se_RX4_yX4_readBy ini_RX4 co_yX4_readBy rfl de_X4_readBy (by decide) (by decide) rfl (Nat.le_of_ble_eq_true rfl) dX4_readCost_15 ?_
  refine T_istore2 dX4_readCost_18 rfl (by decide) ?_
  refine T_aload_n dX4_readCost_19 rfl rfl ?_
  refine T_g4F hv4 2 (by decide) fl_X4_16 rfl dX4_readCost_20 ?_
  refine T_iconst (v := nI 0) dX4_readCost_23 rfl ?_
  refine T_aload_n dX4_readCost_24 rfl rfl ?_
  refine T_g4F hv4 0 (by decide) fl_X4_7 rfl dX4_readCost_25 ?_
  refine T_iconst (v := nI 0) dX4_readCost_28 rfl ?_
  refine T_sv (k_X4_copyState (hv4 3 (by decide)) (hv4 1 (by decide)) (fun _ => rfl) (fun _ => rfl) (by decide) (by omega) (by omega) (by decide) (by decide)) ml_X4_45 sm_yX4_copyState ini_RX4 co_yX4_copyState de_X4_copyState (by decide) (by decide) rfl (Nat.le_of_ble_eq_true rfl) dX4_readCost_29 ?_
  rw [up1_up1]
  refine T_iload_n dX4_readCost_32 rfl rfl ?_
  refine T_re2 (σ' := setR σ0 4 0 (up1 (up1 h 3 (va_cpy m (h 3) 0 0 127)) 1 m)) ?_ (T_iret rfl dX4_readCost_33 ⟨rfl, _, rfl⟩)
  intro K r k _ hk
  unfold setR
  by_cases hc : K = 4 ∧ r = 0
  · rw [if_pos hc, if_pos hc]
    obtain ⟨rfl, rfl⟩ := hc
    by_cases h1 : k = 1
    · subst h1
      rw [up1_same, up1_same]
      refine Or.inr ⟨X.2.1 0, 127, _, _, rfl, rfl, fun j hj => ?_⟩
      show va_cpy (va_cpy m (h 3) 0 0 127) _ 0 0 127 j = m j
      simp [va_cpy, hj]
    · rw [up1_ne h1, up1_ne h1]
      exact Or.inl rfl
  · rw [if_neg hc, if_neg hc]
    exact Or.inl rfl
set_option maxHeartbeats 4000000 in
set_option maxRecDepth 100000 in
theorem k_X4_save {X : Cx} {l : Launch} {σ0 : Hp} {h : Rg} {m : Nat → Int32} {n : Nat} (hv4 : Lv X 4 0) (hn : h 0 4 = nI n) (hn8 : n ≤ 8) : Con X l yX4_save cX4_save 2 none 1 [.ref (adr X 4 0 0)] (setR σ0 4 0 (up1 h 1 m)) (Ex none (setR σ0 4 0 (up1 (svR h m n) 1 m))) := by
  refine Con_of [some (.ref (adr X 4 0 0)), none] (by decide) rfl (Nat.le_of_ble_eq_true rfl) ?_
  have h49 : ∀ (g : Rg) (n1 : Nat) (v : Option Value), g 0 4 = nI n1 → n1 ≤ 7 → T X l yX4_save cX4_save 2 none 1 49 [some (.ref (adr X 4 0 0)), v] [] (setR σ0 4 0 (up1 g 1 m)) (Ex none (setR σ0 4 0 (up1 (up2 (up1 g 4 (va_cpy m (g 4) 0 (127 * n1) 127)) 0 4 (nI (n1 + 1))) 1 m))) := by
    intro g n1 v hg hn1
    have hj4 : 127 * n1 + 127 ≤ 1016 := by omega
    refine T_aload_n dX4_save_49 rfl rfl ?_
    refine T_g4F hv4 0 (by decide) fl_X4_7 rfl dX4_save_50 ?_
    refine T_iconst (v := nI 0) dX4_save_53 rfl ?_
    refine T_aload_n dX4_save_54 rfl rfl ?_
    refine T_g4F hv4 3 (by decide) fl_X4_19 rfl dX4_save_55 ?_
    refine T_bipush (v := nI 127) dX4_save_58 (by decide) ?_
    refine T_aload_n dX4_save_60 rfl rfl ?_
    refine T_g4F (v := .int (nI n1)) hv4 4 (by decide) fl_X4_49 (congrArg (fun z => some (Value.int z)) hg) dX4_save_61 ?_
    first | refine T_imulN dX4_save_64 ?_ | refine T_imul dX4_save_64 ?_
    refine T_sv (k_X4_copyState (hv4 1 (by decide)) (hv4 4 (by decide)) (fun _ => rfl) (fun _ => rfl) (by decide) (by decide) hj4 (by decide) (by decide)) ml_X4_45 sm_yX4_copyState ini_RX4 co_yX4_copyState de_X4_copyState (by decide) (by decide) rfl (Nat.le_of_ble_eq_true rfl) dX4_save_65 ?_
    refine T_aload_n dX4_save_68 rfl rfl ?_
    refine T_dup dX4_save_69 rfl ?_
    refine T_g4F (v := .int (nI n1)) hv4 4 (by decide) fl_X4_49 (congrArg (fun z => some (Value.int z)) hg) dX4_save_70 ?_
    refine T_iconst (v := nI 1) dX4_save_73 rfl ?_
    first | refine T_iaddN dX4_save_74 ?_ | refine T_iadd dX4_save_74 ?_
    refine T_p4F hv4 4 (by decide) rfl rfl fl_X4_49 (by decide) rfl dX4_save_75 ?_
    refine T_vret rfl dX4_save_78 ?_
    refine ⟨rfl, ?_⟩
    congr 1
    funext k
    unfold up2 up1
    by_cases h0 : k = 0
    · subst h0; rfl
    · by_cases h1 : k = 1
      · subst h1; rfl
      · by_cases h4 : k = 4
        · subst h4; rfl
        · simp [h0, h1, h4]
  have hlp : n = 8 → ∀ (e k : Nat), k + e = 889 → T X l yX4_save cX4_save 2 none 1 11 [some (.ref (adr X 4 0 0)), some (.int (nI k))] [] (setR σ0 4 0 (up1 (up1 h 1 m) 4 (shT (h 4) k))) (Ex none (setR σ0 4 0 (up1 (svR h m n) 1 m))) := by
    intro hn8 e
    induction e with
    | zero =>
      intro k hk
      have hk : k = 889 := by omega
      subst hk
      refine T_iload_n dX4_save_11 rfl rfl ?_
      refine T_sipush (v := nI 889) dX4_save_12 (by decide) ?_
      refine T_icmp_ge 39 dX4_save_15 (by decide) (fun h15 => ?_) (fun h15 => (absurd (nI_le (Nat.le_refl _) (by omega)) h15))
      refine T_aload_n dX4_save_39 rfl rfl ?_
      refine T_dup dX4_save_40 rfl ?_
      refine T_g4F (v := .int (nI 8)) hv4 4 (by decide) fl_X4_49 (congrArg (fun z => some (Value.int z)) (hn8 ▸ hn)) dX4_save_41 ?_
      refine T_iconst (v := nI 1) dX4_save_44 rfl ?_
      refine T_isub dX4_save_45 ?_
      rw [show nI 8 - nI 1 = nI 7 by decide]
      refine T_p4F hv4 4 (by decide) rfl rfl fl_X4_49 (by decide) rfl dX4_save_46 ?_
      have h9 := h49 (up2 (up1 h 4 (shT (h 4) 889)) 0 4 (nI 7)) 7 (some (.int (nI 889))) rfl (by decide)
      rw [show up2 (up1 (up1 h 1 m) 4 (shT (h 4) 889)) 0 4 (nI 7) = up1 (up2 (up1 h 4 (shT (h 4) 889)) 0 4 (nI 7)) 1 m from by
        funext k
        unfold up2 up1
        by_cases h0 : k = 0
        · subst h0; rfl
        · by_cases h1 : k = 1
          · subst h1; rfl
          · simp [h0, h1]]
      rw [show up2 (up1 (up2 (up1 h 4 (shT (h 4) 889)) 0 4 (nI 7)) 4 (va_cpy m (up2 (up1 h 4 (shT (h 4) 889)) 0 4 (nI 7) 4) 0 (127 * 7) 127)) 0 4 (nI (7 + 1)) = svR h m n from by
        unfold svR sv1
        rw [if_pos hn8, if_pos hn8]
        funext k
        unfold up2 up1
        by_cases h0 : k = 0
        · subst h0; exact upd_upd _ _ _ _
        · by_cases h4 : k = 4
          · subst h4; rfl
          · simp [h0, h4]] at h9
      exact h9
    | succ e ih =>
      intro k hk
      have hnx := ih (k + 1) (by omega)
      have hk : k < 889 := by omega
      refine T_iload_n dX4_save_11 rfl rfl ?_
      refine T_sipush (v := nI 889) dX4_save_12 (by decide) ?_
      refine T_icmp_ge 39 dX4_save_15 (by decide) (fun h15 => (absurd h15 (nI_ge hk (by omega)))) (fun h15 => ?_)
      refine T_aload_n dX4_save_18 rfl rfl ?_
      refine T_g4F hv4 3 (by decide) fl_X4_19 rfl dX4_save_19 ?_
      refine T_iload_n dX4_save_22 rfl rfl ?_
      refine T_aload_n dX4_save_23 rfl rfl ?_
      refine T_g4F hv4 3 (by decide) fl_X4_19 rfl dX4_save_24 ?_
      refine T_iload_n dX4_save_27 rfl rfl ?_
      refine T_bipush (v := nI 127) dX4_save_28 (by decide) ?_
      first | refine T_iaddN dX4_save_30 ?_ | refine T_iadd dX4_save_30 ?_
      refine T_iald (g := shT (h 4) k) (by rw [setR_self, up1_same]) (hv4 4 (by decide)) rfl (n := 1016) (by decide) (k + 127) (by omega) rfl dX4_save_31 ?_
      refine T_iastF (hv4 4 (by decide)) (fun _ => rfl) (n := 1016) (by decide) k (by omega) rfl dX4_save_32 ?_
      first | refine T_iincN1 dX4_save_33 rfl (by decide) ?_ | refine T_iinc1 dX4_save_33 rfl rfl (by decide) ?_
      refine T_goto 11 dX4_save_36 (by decide) ?_
      rw [up2_of1, show shT (h 4) k (k + 127) = h 4 (k + 127) from if_neg (by omega), shT_s]
      exact hnx
  refine T_aload_n dX4_save_0 rfl rfl ?_
  refine T_g4F (v := .int (nI n)) hv4 4 (by decide) fl_X4_49 (congrArg (fun z => some (Value.int z)) hn) dX4_save_1 ?_
  refine T_bipush (v := nI 8) dX4_save_4 (by decide) ?_
  refine T_icmp_ne 49 dX4_save_6 (by decide) (fun h6 => ?_) (fun h6 => ?_)
  · have hn8 : ¬ n = 8 := fun e => h6 (congrArg nI e)
    have h9 := h49 h n none hn (by omega)
    rw [show up2 (up1 h 4 (va_cpy m (h 4) 0 (127 * n) 127)) 0 4 (nI (n + 1)) = svR h m n from by unfold svR sv1; rw [if_neg hn8, if_neg hn8]] at h9
    exact h9
  · refine T_iconst (v := nI 0) dX4_save_9 rfl ?_
    refine T_istore1 dX4_save_10 rfl (by decide) ?_
    have h0 := hlp (nIe h6 (by omega) (by decide)) 889 0 (by omega)
    rw [shT_0, show up1 (up1 h 1 m) 4 (h 4) = up1 h 1 m from by rw [up1_comm h (by decide : ¬ 1 = 4), up1_id]] at h0
    exact h0
