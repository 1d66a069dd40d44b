/-! ===== the model: its rows, its words ===== -/
section MROWS
variable {X : Cx} {l : Launch} {y : MethodName} {cc : ByteArray} {nL : Nat} {ret : Option FieldType} {d pc : Nat} {ls : List (Option Value)} {st : List Value} {σ0 : Hp} {h : Rg} {m : Nat → Int32} {Q : Option Value → Hp → Prop}
theorem T_ialM {i : Int32} (hv4 : Lv X 4 0) (j : Nat) (hj : j < 127) (hi : i = nI j) (hd : decode cc pc = .ok (.iaload, 1)) (kk : T X l y cc nL ret d (pc + 1) ls (.int (m j) :: st) (setR σ0 4 0 (up1 h 1 m)) Q) : T X l y cc nL ret d pc ls (.int i :: .ref (adr X 4 0 1) :: st) (setR σ0 4 0 (up1 h 1 m)) Q :=
  T_iald (g := m) (by rw [setR_self, up1_same]) (hv4 1 (by decide)) rfl (n := 127) (by decide) j hj hi hd kk
theorem T_iasM {i x : Int32} (hv4 : Lv X 4 0) (j : Nat) (hj : j < 127) (hi : i = nI j) (hd : decode cc pc = .ok (.iastore, 1)) (kk : T X l y cc nL ret d (pc + 1) ls st (setR σ0 4 0 (up1 h 1 (upd m j x))) Q) : T X l y cc nL ret d pc ls (.int x :: .int i :: .ref (adr X 4 0 1) :: st) (setR σ0 4 0 (up1 h 1 m)) Q :=
  T_iast (h := up1 h 1 m) (setR_self σ0 4 0 _) (hv4 1 (by decide)) (fun _ => rfl) (n := 127) (by decide) j hj hi (by rw [setR_setR, up2_of1]) hd kk
end MROWS
abbrev inB (v a b : Int32) : Prop := ¬ v < a ∧ ¬ b < v
def mC (m : Nat → Int32) : Nat := (m 0).toNatClampNeg
def mW (m : Nat → Int32) : Nat := (m 14).toNatClampNeg
def Wm (m : Nat → Int32) : Prop := m 0 = nI (mC m) ∧ 2 ≤ mC m ∧ mC m ≤ 4 ∧ m 14 = nI (mW m) ∧ mW m ≤ 24
theorem Wm.congr {m n : Nat → Int32} (h : Wm m) (e0 : n 0 = m 0) (e1 : n 14 = m 14) : Wm n := by
  unfold Wm mC mW at *
  rw [e0, e1]
  exact h
theorem mC_congr {m n : Nat → Int32} (e0 : n 0 = m 0) : mC n = mC m := by unfold mC; rw [e0]
theorem mW_congr {m n : Nat → Int32} (e0 : n 14 = m 14) : mW n = mW m := by unfold mW; rw [e0]
def mby (m : Nat → Int32) : Nat → Int32 := fun w => m (15 + 3 * w)
def mwt (m : Nat → Int32) : Nat → Int32 := fun w => m (15 + 3 * w + 1)
def mOw (m : Nat → Int32) (c a : Nat) : Int32 := wSum (mwt m) (wBy (mby m) (nI c) (mW m) &&& (m (87 + a) ^^^ -1)) (mW m)
def mLf (m : Nat → Int32) (c a : Nat) : Int32 := m (111 + 4 * c + a) - mOw m c a
def cbS (s : Int32) : Nat → Int32
  | 0 => nI 0
  | n + 1 => cbS s n + ((s >>> (nI n &&& 31)) &&& nI 1)
def mSl (m : Nat → Int32) (a : Nat) : Int32 := cbS (m (87 + a) &&& (m (91 + a) ^^^ -1)) 24
def mKz (m : Nat → Int32) : Nat → Int32 := upd m 91 (m 87)
def mPu (m : Nat → Int32) (c a : Nat) : Nat → Int32 := mKz (upd (upd m (87 + a) (m (87 + a) ||| wBy (mby m) (nI c) (mW m))) (95 + 4 * a + c) (upd m (87 + a) (m (87 + a) ||| wBy (mby m) (nI c) (mW m)) 1))
def mPk (m : Nat → Int32) (a c : Nat) : Nat → Int32 := upd m (87 + a) (m (87 + a) ||| m (87 + c))
def mPf (m : Nat → Int32) (a c : Nat) : Nat → Int32 := upd (mPk m a c) (91 + a) (mPk m a c (91 + a) ||| mPk m a c (91 + c))
def mP0 (m : Nat → Int32) (a c : Nat) : Nat → Int32 := upd (mPf m a c) (95 + 4 * a + c) (mPf m a c 1)
def mHe (m : Nat → Int32) (a c : Nat) : Nat → (Nat → Int32)
  | 0 => m
  | n + 1 => upd (mHe m a c n) (95 + 4 * a + n) (if ¬ n = a ∧ ¬ n = c ∧ mHe m a c n (95 + 4 * a + n) < mHe m a c n (95 + 4 * c + n) then mHe m a c n (95 + 4 * c + n) else mHe m a c n (95 + 4 * a + n))
def mPl (m : Nat → Int32) (a c : Nat) : Nat → Int32 := mKz (mHe (mP0 m a c) a c (mC m))
def mRe (m : Nat → Int32) (a : Nat) : Nat → (Nat → Int32) × Nat
  | 0 => (m, 0)
  | n + 1 => if n = a then mRe m a n else if (mRe m a n).1 1 - (mRe m a n).1 (95 + 4 * a + n) ≤ (mRe m a n).1 (2 + 3 * a + 2) then mRe m a n else (mPl (mRe m a n).1 a n, (mRe m a n).2 + 1)
def mRd (m : Nat → Int32) (a : Nat) : (Nat → Int32) × Nat := if mSl (mRe m a (mC m)).1 a ≤ (mRe m a (mC m)).1 (2 + 3 * a + 1) then mRe m a (mC m) else (mPl (mPl (mRe m a (mC m)).1 0 a) a 0, (mRe m a (mC m)).2 + 2)
theorem upd_ne {f : Nat → Int32} {j i : Nat} {x : Int32} (h : ¬ i = j) : upd f j x i = f i := if_neg h
theorem upd_eq {f : Nat → Int32} {j : Nat} {x : Int32} : upd f j x j = x := if_pos rfl
theorem mHe_lo (m : Nat → Int32) (a c : Nat) {j : Nat} (hj : j < 95) : ∀ n, mHe m a c n j = m j
  | 0 => rfl
  | n + 1 => by rw [mHe, upd_ne (by omega)]; exact mHe_lo m a c hj n
theorem mP0_lo (m : Nat → Int32) (a c : Nat) {j : Nat} (hj : j < 87) : mP0 m a c j = m j := by
  unfold mP0 mPf mPk
  rw [upd_ne (by omega), upd_ne (by omega), upd_ne (by omega)]
theorem mPl_lo (m : Nat → Int32) (a c : Nat) {j : Nat} (hj : j < 87) : mPl m a c j = m j := by
  unfold mPl mKz
  rw [upd_ne (by omega), mHe_lo _ _ _ (by omega), mP0_lo _ _ _ hj]
theorem mPu_lo (m : Nat → Int32) (c a : Nat) {j : Nat} (hj : j < 87) : mPu m c a j = m j := by
  unfold mPu mKz
  rw [upd_ne (by omega), upd_ne (by omega), upd_ne (by omega)]
theorem mRe_lo (m : Nat → Int32) (a : Nat) {j : Nat} (hj : j < 87) : ∀ n, (mRe m a n).1 j = m j
  | 0 => rfl
  | n + 1 => by
    rw [mRe]
    split
    · exact mRe_lo m a hj n
    · split
      · exact mRe_lo m a hj n
      · show mPl _ _ _ _ = _
        rw [mPl_lo _ _ _ hj]; exact mRe_lo m a hj n
theorem or_0 (x : Int32) : x ||| nI 0 = x := Int32.or_zero
theorem add_0 (x : Int32) : x + nI 0 = x := Int32.add_zero x
theorem cpy_succ (f g : Nat → Int32) (i j k : Nat) : upd (va_cpy f g i j k) (j + k) (f (i + k)) = va_cpy f g i j (k + 1) := by
  funext x
  unfold upd va_cpy
  by_cases h : x = j + k
  · rw [if_pos h, if_pos (by omega)]
    congr 1
    omega
  · rw [if_neg h]
    by_cases h2 : j ≤ x ∧ x < j + k
    · rw [if_pos h2, if_pos (by omega)]
    · rw [if_neg h2, if_neg (by omega)]
theorem cpy_0 (f g : Nat → Int32) (i j : Nat) : va_cpy f g i j 0 = g := by
  funext x
  unfold va_cpy
  rw [if_neg (by omega)]

set_option maxHeartbeats 4000000 in
set_option maxRecDepth 100000 in
theorem k_X4_in {X : Cx} {l : Launch} {σ : Hp} {v a b : Int32} : Con X l yX4_in cX4_in 3 (some .boolean) 0 [.int v, .int a, .int b] σ (Ex (some (.int (if inB v a b then nI 1 else nI 0))) σ) := by
  refine Con_of [some (.int v), some (.int a), some (.int b)] (by decide) rfl (Nat.le_of_ble_eq_true rfl) ?_
  refine T_iload_n dX4_in_0 rfl rfl ?_
  refine T_iload_n dX4_in_1 rfl rfl ?_
  refine T_icmp_lt 14 dX4_in_2 (by decide) (fun h2 => ?_) (fun h2 => ?_)
  · refine T_iconst (v := nI 0) dX4_in_14 rfl ?_
    refine T_zret (ty := .boolean) rfl (by decide) dX4_in_15 ?_
    first | (refine ⟨?_, rfl⟩; rw [if_neg (nan1 h2)]) | (refine ⟨?_, rfl⟩; rw [if_neg (nan2 h7)]) | (refine ⟨?_, rfl⟩; rw [if_pos (And.intro h2 h7)])
  · refine T_iload_n dX4_in_5 rfl rfl ?_
    refine T_iload_n dX4_in_6 rfl rfl ?_
    refine T_icmp_gt 14 dX4_in_7 (by decide) (fun h7 => ?_) (fun h7 => ?_)
    · refine T_iconst (v := nI 0) dX4_in_14 rfl ?_
      refine T_zret (ty := .boolean) rfl (by decide) dX4_in_15 ?_
      first | (refine ⟨?_, rfl⟩; rw [if_neg (nan1 h2)]) | (refine ⟨?_, rfl⟩; rw [if_neg (nan2 h7)]) | (refine ⟨?_, rfl⟩; rw [if_pos (And.intro h2 h7)])
    · refine T_iconst (v := nI 1) dX4_in_10 rfl ?_
      refine T_goto 15 dX4_in_11 (by decide) ?_
      refine T_zret (ty := .boolean) rfl (by decide) dX4_in_15 ?_
      first | (refine ⟨?_, rfl⟩; rw [if_neg (nan1 h2)]) | (refine ⟨?_, rfl⟩; rw [if_neg (nan2 h7)]) | (refine ⟨?_, rfl⟩; rw [if_pos (And.intro h2 h7)])
theorem nar_if (p : Prop) (d : Decidable p) : narrow .boolean (.int (@ite _ p d (nI 1) (nI 0))) = .int (@ite _ p d (nI 1) (nI 0)) := by
  by_cases h : p
  · rw [if_pos h]; decide
  · rw [if_neg h]; decide
set_option maxHeartbeats 4000000 in
set_option maxRecDepth 100000 in
theorem k_X4_isCopy {X : Cx} {l : Launch} {σ0 : Hp} {h : Rg} {m : Nat → Int32} {c : Int32} (hv4 : Lv X 4 0) : Con X l yX4_isCopy cX4_isCopy 2 (some .boolean) 1 [.ref (adr X 4 0 0), .int c] (setR σ0 4 0 (up1 h 1 m)) (Ex (some (.int (if inB c (nI 0) (m 0 - nI 1) then nI 1 else nI 0))) (setR σ0 4 0 (up1 h 1 m))) := by
  refine Con_of [some (.ref (adr X 4 0 0)), some (.int c)] (by decide) rfl (Nat.le_of_ble_eq_true rfl) ?_
  refine T_iload_n dX4_isCopy_0 rfl rfl ?_
  refine T_iconst (v := nI 0) dX4_isCopy_1 rfl ?_
  refine T_aload_n dX4_isCopy_2 rfl rfl ?_
  refine T_g4F hv4 0 (by decide) fl_X4_7 rfl dX4_isCopy_3 ?_
  refine T_iconst (v := nI 0) dX4_isCopy_6 rfl ?_
  refine T_ialM hv4 _ (by omega) rfl dX4_isCopy_7 ?_
  refine T_iconst (v := nI 1) dX4_isCopy_8 rfl ?_
  refine T_isub dX4_isCopy_9 ?_
  refine T_si k_X4_in ml_X4_63 sm_yX4_in ini_RX4 co_yX4_in de_X4_in (by decide) (by decide) rfl (Nat.le_of_ble_eq_true rfl) dX4_isCopy_10 ?_
  exact T_zret (ty := .boolean) rfl (nar_if _ _) dX4_isCopy_13 ⟨rfl, rfl⟩
set_option maxHeartbeats 4000000 in
set_option maxRecDepth 100000 in
theorem k_X4_arePair {X : Cx} {l : Launch} {σ0 : Hp} {h : Rg} {m : Nat → Int32} {a c : Int32} (hv4 : Lv X 4 0) : Con X l yX4_arePair cX4_arePair 3 (some .boolean) 2 [.ref (adr X 4 0 0), .int a, .int c] (setR σ0 4 0 (up1 h 1 m)) (Ex (some (.int (if inB a (nI 0) (m 0 - nI 1) ∧ inB c (nI 0) (m 0 - nI 1) ∧ ¬ a = c then nI 1 else nI 0))) (setR σ0 4 0 (up1 h 1 m))) := by
  refine Con_of [some (.ref (adr X 4 0 0)), some (.int a), some (.int c)] (by decide) rfl (Nat.le_of_ble_eq_true rfl) ?_
  refine T_aload_n dX4_arePair_0 rfl rfl ?_
  refine T_iload_n dX4_arePair_1 rfl rfl ?_
  refine T_vi (Rc_of (hv4 0 (by decide)) rfl rfl) (k_X4_isCopy hv4) ml_X4_118 im_yX4_isCopy se_RX4_yX4_isCopy ini_RX4 co_yX4_isCopy rfl de_X4_isCopy (by decide) (by decide) rfl (Nat.le_of_ble_eq_true rfl) dX4_arePair_2 ?_
  refine T_if_eq 25 dX4_arePair_5 (by decide) (fun h5 => ?_) (fun h5 => ?_)
  · refine T_iconst (v := nI 0) dX4_arePair_25 rfl ?_
    refine T_zret (ty := .boolean) rfl (by decide) dX4_arePair_26 ?_
    first | (refine ⟨?_, rfl⟩; rw [if_neg (an1 (b01_0 h5))]) | (refine ⟨?_, rfl⟩; rw [if_neg (an2 (b01_0 h13))]) | (refine ⟨?_, rfl⟩; rw [if_neg (cn3 h18)]) | (refine ⟨?_, rfl⟩; rw [if_pos (an0 (b01_1 h5) (b01_1 h13) h18)])
  · refine T_aload_n dX4_arePair_8 rfl rfl ?_
    refine T_iload_n dX4_arePair_9 rfl rfl ?_
    refine T_vi (Rc_of (hv4 0 (by decide)) rfl rfl) (k_X4_isCopy hv4) ml_X4_118 im_yX4_isCopy se_RX4_yX4_isCopy ini_RX4 co_yX4_isCopy rfl de_X4_isCopy (by decide) (by decide) rfl (Nat.le_of_ble_eq_true rfl) dX4_arePair_10 ?_
    refine T_if_eq 25 dX4_arePair_13 (by decide) (fun h13 => ?_) (fun h13 => ?_)
    · refine T_iconst (v := nI 0) dX4_arePair_25 rfl ?_
      refine T_zret (ty := .boolean) rfl (by decide) dX4_arePair_26 ?_
      first | (refine ⟨?_, rfl⟩; rw [if_neg (an1 (b01_0 h5))]) | (refine ⟨?_, rfl⟩; rw [if_neg (an2 (b01_0 h13))]) | (refine ⟨?_, rfl⟩; rw [if_neg (cn3 h18)]) | (refine ⟨?_, rfl⟩; rw [if_pos (an0 (b01_1 h5) (b01_1 h13) h18)])
    · refine T_iload_n dX4_arePair_16 rfl rfl ?_
      refine T_iload_n dX4_arePair_17 rfl rfl ?_
      refine T_icmp_eq 25 dX4_arePair_18 (by decide) (fun h18 => ?_) (fun h18 => ?_)
      · refine T_iconst (v := nI 0) dX4_arePair_25 rfl ?_
        refine T_zret (ty := .boolean) rfl (by decide) dX4_arePair_26 ?_
        first | (refine ⟨?_, rfl⟩; rw [if_neg (an1 (b01_0 h5))]) | (refine ⟨?_, rfl⟩; rw [if_neg (an2 (b01_0 h13))]) | (refine ⟨?_, rfl⟩; rw [if_neg (cn3 h18)]) | (refine ⟨?_, rfl⟩; rw [if_pos (an0 (b01_1 h5) (b01_1 h13) h18)])
      · refine T_iconst (v := nI 1) dX4_arePair_21 rfl ?_
        refine T_goto 26 dX4_arePair_22 (by decide) ?_
        refine T_zret (ty := .boolean) rfl (by decide) dX4_arePair_26 ?_
        first | (refine ⟨?_, rfl⟩; rw [if_neg (an1 (b01_0 h5))]) | (refine ⟨?_, rfl⟩; rw [if_neg (an2 (b01_0 h13))]) | (refine ⟨?_, rfl⟩; rw [if_neg (cn3 h18)]) | (refine ⟨?_, rfl⟩; rw [if_pos (an0 (b01_1 h5) (b01_1 h13) h18)])
set_option maxHeartbeats 4000000 in
set_option maxRecDepth 100000 in
theorem k_X4_weight {X : Cx} {l : Launch} {σ0 : Hp} {h : Rg} {m : Nat → Int32} {w : Nat} (hv4 : Lv X 4 0) (hwt : w < 24) : Con X l yX4_weight cX4_weight 2 (some .int) 0 [.ref (adr X 4 0 0), .int (nI w)] (setR σ0 4 0 (up1 h 1 m)) (Ex (some (.int (mwt m w))) (setR σ0 4 0 (up1 h 1 m))) := by
  refine Con_of [some (.ref (adr X 4 0 0)), some (.int (nI w))] (by decide) rfl (Nat.le_of_ble_eq_true rfl) ?_
  refine T_aload_n dX4_weight_0 rfl rfl ?_
  refine T_g4F hv4 0 (by decide) fl_X4_7 rfl dX4_weight_1 ?_
  refine T_bipush (v := nI 15) dX4_weight_4 (by decide) ?_
  refine T_iconst (v := nI 3) dX4_weight_6 rfl ?_
  refine T_iload_n dX4_weight_7 rfl rfl ?_
  first | refine T_imulN dX4_weight_8 ?_ | refine T_imul dX4_weight_8 ?_
  first | refine T_iaddN dX4_weight_9 ?_ | refine T_iadd dX4_weight_9 ?_
  refine T_iconst (v := nI 1) dX4_weight_10 rfl ?_
  first | refine T_iaddN dX4_weight_11 ?_ | refine T_iadd dX4_weight_11 ?_
  refine T_ialM hv4 _ (by omega) rfl dX4_weight_12 ?_
  refine T_iret rfl dX4_weight_13 ?_
  exact ⟨rfl, rfl⟩
set_option maxHeartbeats 4000000 in
set_option maxRecDepth 100000 in
theorem k_X4_countBits {X : Cx} {l : Launch} {σ : Hp} {s : Int32} : Con X l yX4_countBits cX4_countBits 3 (some .int) 0 [.int s] σ (Ex (some (.int (cbS s 24))) σ) := by
  refine Con_of [some (.int s), none, none] (by decide) rfl (Nat.le_of_ble_eq_true rfl) ?_
  have hlp : ∀ (n k : Nat), k + n = 24 → T X l yX4_countBits cX4_countBits 3 (some .int) 0 4 [some (.int s), some (.int (cbS s k)), some (.int (nI k))] [] σ (Ex (some (.int (cbS s 24))) σ) := by
    intro n
    induction n with
    | zero =>
      intro k hk
      have hk : k = 24 := by omega
      subst hk
      refine T_iload_n dX4_countBits_4 rfl rfl ?_
      refine T_bipush (v := nI 24) dX4_countBits_5 (by decide) ?_
      refine T_icmp_ge 24 dX4_countBits_7 (by decide) (fun h7 => ?_) (fun h7 => (absurd (nI_le (Nat.le_refl _) (by omega)) h7))
      refine T_iload_n dX4_countBits_24 rfl rfl ?_
      refine T_iret rfl dX4_countBits_25 ?_
      exact ⟨rfl, rfl⟩
    | succ n ih =>
      intro k hk
      have hnx := ih (k + 1) (by omega)
      have hk : k < 24 := by omega
      refine T_iload_n dX4_countBits_4 rfl rfl ?_
      refine T_bipush (v := nI 24) dX4_countBits_5 (by decide) ?_
      refine T_icmp_ge 24 dX4_countBits_7 (by decide) (fun h7 => (absurd h7 (nI_ge hk (by omega)))) (fun h7 => ?_)
      refine T_iload_n dX4_countBits_10 rfl rfl ?_
      refine T_iload_n dX4_countBits_11 rfl rfl ?_
      refine T_iload_n dX4_countBits_12 rfl rfl ?_
      refine T_ishr dX4_countBits_13 ?_
      refine T_iconst (v := nI 1) dX4_countBits_14 rfl ?_
      refine T_iand dX4_countBits_15 ?_
      refine T_iadd dX4_countBits_16 ?_
      refine T_istore1 dX4_countBits_17 rfl (by decide) ?_
      first | refine T_iincN2 dX4_countBits_18 rfl (by decide) ?_ | refine T_iinc2 dX4_countBits_18 rfl rfl (by decide) ?_
      refine T_goto 4 dX4_countBits_21 (by decide) ?_
      exact hnx
  refine T_iconst (v := nI 0) dX4_countBits_0 rfl ?_
  refine T_istore1 dX4_countBits_1 rfl (by decide) ?_
  refine T_iconst (v := nI 0) dX4_countBits_2 rfl ?_
  refine T_istore2 dX4_countBits_3 rfl (by decide) ?_
  exact hlp 24 0 (by omega)
set_option maxHeartbeats 4000000 in
set_option maxRecDepth 100000 in
theorem k_X4_acceptedBy {X : Cx} {l : Launch} {σ0 : Hp} {h : Rg} {m : Nat → Int32} {c : Nat} (hv4 : Lv X 4 0) (hw : Wm m) : Con X l yX4_acceptedBy cX4_acceptedBy 4 (some .int) 0 [.ref (adr X 4 0 0), .int (nI c)] (setR σ0 4 0 (up1 h 1 m)) (Ex (some (.int (wBy (mby m) (nI c) (mW m)))) (setR σ0 4 0 (up1 h 1 m))) := by
  refine Con_of [some (.ref (adr X 4 0 0)), some (.int (nI c)), none, none] (by decide) rfl (Nat.le_of_ble_eq_true rfl) ?_
  have hW := hw.2.2.2.2
  have hC := hw.2.2.1
  have hlp : ∀ (n k : Nat), k + n = mW m → T X l yX4_acceptedBy cX4_acceptedBy 4 (some .int) 0 4 [some (.ref (adr X 4 0 0)), some (.int (nI c)), some (.int (wBy (mby m) (nI c) k)), some (.int (nI k))] [] (setR σ0 4 0 (up1 h 1 m)) (Ex (some (.int (wBy (mby m) (nI c) (mW m)))) (setR σ0 4 0 (up1 h 1 m))) := by
    intro n
    induction n with
    | zero =>
      intro k hk
      have hk : k = mW m := by omega
      subst hk
      refine T_iload_n dX4_acceptedBy_4 rfl rfl ?_
      refine T_aload_n dX4_acceptedBy_5 rfl rfl ?_
      refine T_g4F hv4 0 (by decide) fl_X4_7 rfl dX4_acceptedBy_6 ?_
      refine T_bipush (v := nI 14) dX4_acceptedBy_9 (by decide) ?_
      refine T_ialM hv4 _ (by omega) rfl dX4_acceptedBy_11 ?_
      refine T_icmp_ge 46 dX4_acceptedBy_12 (by decide) (fun h12 => ?_) (fun h12 => (absurd (by rw [hw.2.2.2.1]; exact nI_le (Nat.le_refl _) (by omega)) h12))
      refine T_iload_n dX4_acceptedBy_46 rfl rfl ?_
      refine T_iret rfl dX4_acceptedBy_47 ?_
      exact ⟨rfl, rfl⟩
    | succ n ih =>
      intro k hk
      have hnx := ih (k + 1) (by omega)
      have hk : k < mW m := by omega
      refine T_iload_n dX4_acceptedBy_4 rfl rfl ?_
      refine T_aload_n dX4_acceptedBy_5 rfl rfl ?_
      refine T_g4F hv4 0 (by decide) fl_X4_7 rfl dX4_acceptedBy_6 ?_
      refine T_bipush (v := nI 14) dX4_acceptedBy_9 (by decide) ?_
      refine T_ialM hv4 _ (by omega) rfl dX4_acceptedBy_11 ?_
      refine T_icmp_ge 46 dX4_acceptedBy_12 (by decide) (fun h12 => (absurd (hw.2.2.2.1 ▸ h12) (nI_ge hk (by omega)))) (fun h12 => ?_)
      refine T_iload_n dX4_acceptedBy_15 rfl rfl ?_
      refine T_aload_n dX4_acceptedBy_16 rfl rfl ?_
      refine T_g4F hv4 0 (by decide) fl_X4_7 rfl dX4_acceptedBy_17 ?_
      refine T_bipush (v := nI 15) dX4_acceptedBy_20 (by decide) ?_
      refine T_iconst (v := nI 3) dX4_acceptedBy_22 rfl ?_
      refine T_iload_n dX4_acceptedBy_23 rfl rfl ?_
      first | refine T_imulN dX4_acceptedBy_24 ?_ | refine T_imul dX4_acceptedBy_24 ?_
      first | refine T_iaddN dX4_acceptedBy_25 ?_ | refine T_iadd dX4_acceptedBy_25 ?_
      refine T_ialM hv4 _ (by omega) rfl dX4_acceptedBy_26 ?_
      refine T_iload_n dX4_acceptedBy_27 rfl rfl ?_
      refine T_icmp_ne 37 dX4_acceptedBy_28 (by decide) (fun h28 => ?_) (fun h28 => ?_)
      · refine T_iconst (v := nI 0) dX4_acceptedBy_37 rfl ?_
        refine T_ior dX4_acceptedBy_38 ?_
        refine T_istore2 dX4_acceptedBy_39 rfl (by decide) ?_
        first | refine T_iincN3 dX4_acceptedBy_40 rfl (by decide) ?_ | refine T_iinc3 dX4_acceptedBy_40 rfl rfl (by decide) ?_
        refine T_goto 4 dX4_acceptedBy_43 (by decide) ?_
        first | (rw [wBy, if_pos (show mby m k = nI c from h28)] at hnx; exact hnx) | (rw [wBy, if_neg (show ¬ mby m k = nI c from h28)] at hnx; rw [or_0]; exact hnx)
      · refine T_iconst (v := nI 1) dX4_acceptedBy_31 rfl ?_
        refine T_iload_n dX4_acceptedBy_32 rfl rfl ?_
        refine T_ishl dX4_acceptedBy_33 ?_
        refine T_goto 38 dX4_acceptedBy_34 (by decide) ?_
        refine T_ior dX4_acceptedBy_38 ?_
        refine T_istore2 dX4_acceptedBy_39 rfl (by decide) ?_
        first | refine T_iincN3 dX4_acceptedBy_40 rfl (by decide) ?_ | refine T_iinc3 dX4_acceptedBy_40 rfl rfl (by decide) ?_
        refine T_goto 4 dX4_acceptedBy_43 (by decide) ?_
        first | (rw [wBy, if_pos (show mby m k = nI c from h28)] at hnx; exact hnx) | (rw [wBy, if_neg (show ¬ mby m k = nI c from h28)] at hnx; rw [or_0]; exact hnx)
  refine T_iconst (v := nI 0) dX4_acceptedBy_0 rfl ?_
  refine T_istore2 dX4_acceptedBy_1 rfl (by decide) ?_
  refine T_iconst (v := nI 0) dX4_acceptedBy_2 rfl ?_
  refine T_istore3 dX4_acceptedBy_3 rfl (by decide) ?_
  exact hlp (mW m) 0 (by omega)
set_option maxHeartbeats 4000000 in
set_option maxRecDepth 100000 in
theorem k_X4_sumOf {X : Cx} {l : Launch} {σ0 : Hp} {h : Rg} {m : Nat → Int32} {s : Int32} (hv4 : Lv X 4 0) (hw : Wm m) : Con X l yX4_sumOf cX4_sumOf 4 (some .int) 1 [.ref (adr X 4 0 0), .int s] (setR σ0 4 0 (up1 h 1 m)) (Ex (some (.int (wSum (mwt m) s (mW m)))) (setR σ0 4 0 (up1 h 1 m))) := by
  refine Con_of [some (.ref (adr X 4 0 0)), some (.int s), none, none] (by decide) rfl (Nat.le_of_ble_eq_true rfl) ?_
  have hW := hw.2.2.2.2
  have hC := hw.2.2.1
  have hlp : ∀ (n k : Nat), k + n = mW m → T X l yX4_sumOf cX4_sumOf 4 (some .int) 1 4 [some (.ref (adr X 4 0 0)), some (.int s), some (.int (wSum (mwt m) s k)), some (.int (nI k))] [] (setR σ0 4 0 (up1 h 1 m)) (Ex (some (.int (wSum (mwt m) s (mW m)))) (setR σ0 4 0 (up1 h 1 m))) := by
    intro n
    induction n with
    | zero =>
      intro k hk
      have hk : k = mW m := by omega
      subst hk
      refine T_iload_n dX4_sumOf_4 rfl rfl ?_
      refine T_aload_n dX4_sumOf_5 rfl rfl ?_
      refine T_g4F hv4 0 (by decide) fl_X4_7 rfl dX4_sumOf_6 ?_
      refine T_bipush (v := nI 14) dX4_sumOf_9 (by decide) ?_
      refine T_ialM hv4 _ (by omega) rfl dX4_sumOf_11 ?_
      refine T_icmp_ge 42 dX4_sumOf_12 (by decide) (fun h12 => ?_) (fun h12 => (absurd (by rw [hw.2.2.2.1]; exact nI_le (Nat.le_refl _) (by omega)) h12))
      refine T_iload_n dX4_sumOf_42 rfl rfl ?_
      refine T_iret rfl dX4_sumOf_43 ?_
      exact ⟨rfl, rfl⟩
    | succ n ih =>
      intro k hk
      have hnx := ih (k + 1) (by omega)
      have hk : k < mW m := by omega
      refine T_iload_n dX4_sumOf_4 rfl rfl ?_
      refine T_aload_n dX4_sumOf_5 rfl rfl ?_
      refine T_g4F hv4 0 (by decide) fl_X4_7 rfl dX4_sumOf_6 ?_
      refine T_bipush (v := nI 14) dX4_sumOf_9 (by decide) ?_
      refine T_ialM hv4 _ (by omega) rfl dX4_sumOf_11 ?_
      refine T_icmp_ge 42 dX4_sumOf_12 (by decide) (fun h12 => (absurd (hw.2.2.2.1 ▸ h12) (nI_ge hk (by omega)))) (fun h12 => ?_)
      refine T_iload_n dX4_sumOf_15 rfl rfl ?_
      refine T_iload_n dX4_sumOf_16 rfl rfl ?_
      refine T_iload_n dX4_sumOf_17 rfl rfl ?_
      refine T_ishr dX4_sumOf_18 ?_
      refine T_iconst (v := nI 1) dX4_sumOf_19 rfl ?_
      refine T_iand dX4_sumOf_20 ?_
      refine T_iconst (v := nI 1) dX4_sumOf_21 rfl ?_
      refine T_icmp_ne 33 dX4_sumOf_22 (by decide) (fun h22 => ?_) (fun h22 => ?_)
      · refine T_iconst (v := nI 0) dX4_sumOf_33 rfl ?_
        refine T_iadd dX4_sumOf_34 ?_
        refine T_istore2 dX4_sumOf_35 rfl (by decide) ?_
        first | refine T_iincN3 dX4_sumOf_36 rfl (by decide) ?_ | refine T_iinc3 dX4_sumOf_36 rfl rfl (by decide) ?_
        refine T_goto 4 dX4_sumOf_39 (by decide) ?_
        first | (rw [wSum, if_pos h22] at hnx; exact hnx) | (rw [wSum, if_neg h22] at hnx; rw [add_0]; exact hnx)
      · refine T_aload_n dX4_sumOf_25 rfl rfl ?_
        refine T_iload_n dX4_sumOf_26 rfl rfl ?_
        refine T_vi (Rc_of (hv4 0 (by decide)) rfl rfl) (k_X4_weight hv4 (by omega)) ml_X4_122 im_yX4_weight se_RX4_yX4_weight ini_RX4 co_yX4_weight rfl de_X4_weight (by decide) (by decide) rfl (Nat.le_of_ble_eq_true rfl) dX4_sumOf_27 ?_
        refine T_goto 34 dX4_sumOf_30 (by decide) ?_
        refine T_iadd dX4_sumOf_34 ?_
        refine T_istore2 dX4_sumOf_35 rfl (by decide) ?_
        first | refine T_iincN3 dX4_sumOf_36 rfl (by decide) ?_ | refine T_iinc3 dX4_sumOf_36 rfl rfl (by decide) ?_
        refine T_goto 4 dX4_sumOf_39 (by decide) ?_
        first | (rw [wSum, if_pos h22] at hnx; exact hnx) | (rw [wSum, if_neg h22] at hnx; rw [add_0]; exact hnx)
  refine T_iconst (v := nI 0) dX4_sumOf_0 rfl ?_
  refine T_istore2 dX4_sumOf_1 rfl (by decide) ?_
  refine T_iconst (v := nI 0) dX4_sumOf_2 rfl ?_
  refine T_istore3 dX4_sumOf_3 rfl (by decide) ?_
  exact hlp (mW m) 0 (by omega)
set_option maxHeartbeats 4000000 in
set_option maxRecDepth 100000 in
theorem k_X4_owed {X : Cx} {l : Launch} {σ0 : Hp} {h : Rg} {m : Nat → Int32} {c a : Nat} (hv4 : Lv X 4 0) (hw : Wm m) (hc : c < 4) (ha : a < 4) : Con X l yX4_owed cX4_owed 3 (some .int) 2 [.ref (adr X 4 0 0), .int (nI c), .int (nI a)] (setR σ0 4 0 (up1 h 1 m)) (Ex (some (.int (mOw m c a))) (setR σ0 4 0 (up1 h 1 m))) := by
  refine Con_of [some (.ref (adr X 4 0 0)), some (.int (nI c)), some (.int (nI a))] (by decide) rfl (Nat.le_of_ble_eq_true rfl) ?_
  refine T_aload_n dX4_owed_0 rfl rfl ?_
  refine T_aload_n dX4_owed_1 rfl rfl ?_
  refine T_iload_n dX4_owed_2 rfl rfl ?_
  refine T_vi (Rc_of (hv4 0 (by decide)) rfl rfl) (k_X4_acceptedBy hv4 hw) ml_X4_126 im_yX4_acceptedBy se_RX4_yX4_acceptedBy ini_RX4 co_yX4_acceptedBy rfl de_X4_acceptedBy (by decide) (by decide) rfl (Nat.le_of_ble_eq_true rfl) dX4_owed_3 ?_
  refine T_aload_n dX4_owed_6 rfl rfl ?_
  refine T_g4F hv4 0 (by decide) fl_X4_7 rfl dX4_owed_7 ?_
  refine T_bipush (v := nI 87) dX4_owed_10 (by decide) ?_
  refine T_iload_n dX4_owed_12 rfl rfl ?_
  first | refine T_iaddN dX4_owed_13 ?_ | refine T_iadd dX4_owed_13 ?_
  refine T_ialM hv4 _ (by omega) rfl dX4_owed_14 ?_
  refine T_iconst (v := -1) dX4_owed_15 rfl ?_
  refine T_ixor dX4_owed_16 ?_
  refine T_iand dX4_owed_17 ?_
  refine T_vi (Rc_of (hv4 0 (by decide)) rfl rfl) (k_X4_sumOf hv4 hw) ml_X4_129 im_yX4_sumOf se_RX4_yX4_sumOf ini_RX4 co_yX4_sumOf rfl de_X4_sumOf (by decide) (by decide) rfl (Nat.le_of_ble_eq_true rfl) dX4_owed_18 ?_
  refine T_iret rfl dX4_owed_21 ?_
  exact ⟨rfl, rfl⟩
set_option maxHeartbeats 4000000 in
set_option maxRecDepth 100000 in
theorem k_X4_budgetCell {X : Cx} {l : Launch} {σ : Hp} {a c : Nat} : Con X l yX4_budgetCell cX4_budgetCell 3 (some .int) 0 [.ref (adr X 4 0 0), .int (nI a), .int (nI c)] σ (Ex (some (.int (nI (111 + 4 * a + c)))) σ) := by
  refine Con_of [some (.ref (adr X 4 0 0)), some (.int (nI a)), some (.int (nI c))] (by decide) rfl (Nat.le_of_ble_eq_true rfl) ?_
  refine T_bipush (v := nI 111) dX4_budgetCell_0 (by decide) ?_
  refine T_iconst (v := nI 4) dX4_budgetCell_2 rfl ?_
  refine T_iload_n dX4_budgetCell_3 rfl rfl ?_
  first | refine T_imulN dX4_budgetCell_4 ?_ | refine T_imul dX4_budgetCell_4 ?_
  first | refine T_iaddN dX4_budgetCell_5 ?_ | refine T_iadd dX4_budgetCell_5 ?_
  refine T_iload_n dX4_budgetCell_6 rfl rfl ?_
  first | refine T_iaddN dX4_budgetCell_7 ?_ | refine T_iadd dX4_budgetCell_7 ?_
  refine T_iret rfl dX4_budgetCell_8 ?_
  exact ⟨rfl, rfl⟩
set_option maxHeartbeats 4000000 in
set_option maxRecDepth 100000 in
theorem k_X4_heardCell {X : Cx} {l : Launch} {σ : Hp} {a c : Nat} : Con X l yX4_heardCell cX4_heardCell 3 (some .int) 0 [.ref (adr X 4 0 0), .int (nI a), .int (nI c)] σ (Ex (some (.int (nI (95 + 4 * a + c)))) σ) := by
  refine Con_of [some (.ref (adr X 4 0 0)), some (.int (nI a)), some (.int (nI c))] (by decide) rfl (Nat.le_of_ble_eq_true rfl) ?_
  refine T_bipush (v := nI 95) dX4_heardCell_0 (by decide) ?_
  refine T_iconst (v := nI 4) dX4_heardCell_2 rfl ?_
  refine T_iload_n dX4_heardCell_3 rfl rfl ?_
  first | refine T_imulN dX4_heardCell_4 ?_ | refine T_imul dX4_heardCell_4 ?_
  first | refine T_iaddN dX4_heardCell_5 ?_ | refine T_iadd dX4_heardCell_5 ?_
  refine T_iload_n dX4_heardCell_6 rfl rfl ?_
  first | refine T_iaddN dX4_heardCell_7 ?_ | refine T_iadd dX4_heardCell_7 ?_
  refine T_iret rfl dX4_heardCell_8 ?_
  exact ⟨rfl, rfl⟩
set_option maxHeartbeats 4000000 in
set_option maxRecDepth 100000 in
theorem k_X4_left {X : Cx} {l : Launch} {σ0 : Hp} {h : Rg} {m : Nat → Int32} {c a : Nat} (hv4 : Lv X 4 0) (hw : Wm m) (hc : c < 4) (ha : a < 4) : Con X l yX4_left cX4_left 3 (some .int) 3 [.ref (adr X 4 0 0), .int (nI c), .int (nI a)] (setR σ0 4 0 (up1 h 1 m)) (Ex (some (.int (mLf m c a))) (setR σ0 4 0 (up1 h 1 m))) := by
  refine Con_of [some (.ref (adr X 4 0 0)), some (.int (nI c)), some (.int (nI a))] (by decide) rfl (Nat.le_of_ble_eq_true rfl) ?_
  refine T_aload_n dX4_left_0 rfl rfl ?_
  refine T_g4F hv4 0 (by decide) fl_X4_7 rfl dX4_left_1 ?_
  refine T_aload_n dX4_left_4 rfl rfl ?_
  refine T_iload_n dX4_left_5 rfl rfl ?_
  refine T_iload_n dX4_left_6 rfl rfl ?_
  refine T_vi (Rc_of (hv4 0 (by decide)) rfl rfl) k_X4_budgetCell ml_X4_132 im_yX4_budgetCell se_RX4_yX4_budgetCell ini_RX4 co_yX4_budgetCell rfl de_X4_budgetCell (by decide) (by decide) rfl (Nat.le_of_ble_eq_true rfl) dX4_left_7 ?_
  refine T_ialM hv4 _ (by omega) rfl dX4_left_10 ?_
  refine T_aload_n dX4_left_11 rfl rfl ?_
  refine T_iload_n dX4_left_12 rfl rfl ?_
  refine T_iload_n dX4_left_13 rfl rfl ?_
  refine T_vi (Rc_of (hv4 0 (by decide)) rfl rfl) (k_X4_owed hv4 hw (by omega) (by omega)) ml_X4_136 im_yX4_owed se_RX4_yX4_owed ini_RX4 co_yX4_owed rfl de_X4_owed (by decide) (by decide) rfl (Nat.le_of_ble_eq_true rfl) dX4_left_14 ?_
  refine T_isub dX4_left_17 ?_
  refine T_iret rfl dX4_left_18 ?_
  exact ⟨rfl, rfl⟩
set_option maxHeartbeats 4000000 in
set_option maxRecDepth 100000 in
theorem k_X4_slowCount {X : Cx} {l : Launch} {σ0 : Hp} {h : Rg} {m : Nat → Int32} {a : Nat} (hv4 : Lv X 4 0) (ha : a < 4) : Con X l yX4_slowCount cX4_slowCount 2 (some .int) 1 [.ref (adr X 4 0 0), .int (nI a)] (setR σ0 4 0 (up1 h 1 m)) (Ex (some (.int (mSl m a))) (setR σ0 4 0 (up1 h 1 m))) := by
  refine Con_of [some (.ref (adr X 4 0 0)), some (.int (nI a))] (by decide) rfl (Nat.le_of_ble_eq_true rfl) ?_
  refine T_aload_n dX4_slowCount_0 rfl rfl ?_
  refine T_g4F hv4 0 (by decide) fl_X4_7 rfl dX4_slowCount_1 ?_
  refine T_bipush (v := nI 87) dX4_slowCount_4 (by decide) ?_
  refine T_iload_n dX4_slowCount_6 rfl rfl ?_
  first | refine T_iaddN dX4_slowCount_7 ?_ | refine T_iadd dX4_slowCount_7 ?_
  refine T_ialM hv4 _ (by omega) rfl dX4_slowCount_8 ?_
  refine T_aload_n dX4_slowCount_9 rfl rfl ?_
  refine T_g4F hv4 0 (by decide) fl_X4_7 rfl dX4_slowCount_10 ?_
  refine T_bipush (v := nI 91) dX4_slowCount_13 (by decide) ?_
  refine T_iload_n dX4_slowCount_15 rfl rfl ?_
  first | refine T_iaddN dX4_slowCount_16 ?_ | refine T_iadd dX4_slowCount_16 ?_
  refine T_ialM hv4 _ (by omega) rfl dX4_slowCount_17 ?_
  refine T_iconst (v := -1) dX4_slowCount_18 rfl ?_
  refine T_ixor dX4_slowCount_19 ?_
  refine T_iand dX4_slowCount_20 ?_
  refine T_si k_X4_countBits ml_X4_139 sm_yX4_countBits ini_RX4 co_yX4_countBits de_X4_countBits (by decide) (by decide) rfl (Nat.le_of_ble_eq_true rfl) dX4_slowCount_21 ?_
  refine T_iret rfl dX4_slowCount_24 ?_
  exact ⟨rfl, rfl⟩
set_option maxHeartbeats 4000000 in
set_option maxRecDepth 100000 in
theorem k_X4_keepZeroFast {X : Cx} {l : Launch} {σ0 : Hp} {h : Rg} {m : Nat → Int32} (hv4 : Lv X 4 0) : Con X l yX4_keepZeroFast cX4_keepZeroFast 1 none 0 [.ref (adr X 4 0 0)] (setR σ0 4 0 (up1 h 1 m)) (Ex none (setR σ0 4 0 (up1 h 1 (mKz m)))) := by
  refine Con_of [some (.ref (adr X 4 0 0))] (by decide) rfl (Nat.le_of_ble_eq_true rfl) ?_
  refine T_aload_n dX4_keepZeroFast_0 rfl rfl ?_
  refine T_g4F hv4 0 (by decide) fl_X4_7 rfl dX4_keepZeroFast_1 ?_
  refine T_bipush (v := nI 91) dX4_keepZeroFast_4 (by decide) ?_
  refine T_aload_n dX4_keepZeroFast_6 rfl rfl ?_
  refine T_g4F hv4 0 (by decide) fl_X4_7 rfl dX4_keepZeroFast_7 ?_
  refine T_bipush (v := nI 87) dX4_keepZeroFast_10 (by decide) ?_
  refine T_ialM hv4 _ (by omega) rfl dX4_keepZeroFast_12 ?_
  refine T_iasM hv4 _ (by omega) rfl dX4_keepZeroFast_13 ?_
  refine T_vret rfl dX4_keepZeroFast_14 ?_
  exact ⟨rfl, rfl⟩
set_option maxHeartbeats 4000000 in
set_option maxRecDepth 100000 in
theorem k_X4_push {X : Cx} {l : Launch} {σ0 : Hp} {h : Rg} {m : Nat → Int32} {c a : Nat} (hv4 : Lv X 4 0) (hw : Wm m) (hc : c < 4) (ha : a < 4) : Con X l yX4_push cX4_push 3 none 1 [.ref (adr X 4 0 0), .int (nI c), .int (nI a)] (setR σ0 4 0 (up1 h 1 m)) (Ex none (setR σ0 4 0 (up1 h 1 (mPu m c a)))) := by
  refine Con_of [some (.ref (adr X 4 0 0)), some (.int (nI c)), some (.int (nI a))] (by decide) rfl (Nat.le_of_ble_eq_true rfl) ?_
  refine T_aload_n dX4_push_0 rfl rfl ?_
  refine T_g4F hv4 0 (by decide) fl_X4_7 rfl dX4_push_1 ?_
  refine T_bipush (v := nI 87) dX4_push_4 (by decide) ?_
  refine T_iload_n dX4_push_6 rfl rfl ?_
  first | refine T_iaddN dX4_push_7 ?_ | refine T_iadd dX4_push_7 ?_
  refine T_dup2 dX4_push_8 rfl rfl ?_
  refine T_ialM hv4 _ (by omega) rfl dX4_push_9 ?_
  refine T_aload_n dX4_push_10 rfl rfl ?_
  refine T_iload_n dX4_push_11 rfl rfl ?_
  refine T_vi (Rc_of (hv4 0 (by decide)) rfl rfl) (k_X4_acceptedBy hv4 hw) ml_X4_126 im_yX4_acceptedBy se_RX4_yX4_acceptedBy ini_RX4 co_yX4_acceptedBy rfl de_X4_acceptedBy (by decide) (by decide) rfl (Nat.le_of_ble_eq_true rfl) dX4_push_12 ?_
  refine T_ior dX4_push_15 ?_
  refine T_iasM hv4 _ (by omega) rfl dX4_push_16 ?_
  refine T_aload_n dX4_push_17 rfl rfl ?_
  refine T_g4F hv4 0 (by decide) fl_X4_7 rfl dX4_push_18 ?_
  refine T_aload_n dX4_push_21 rfl rfl ?_
  refine T_iload_n dX4_push_22 rfl rfl ?_
  refine T_iload_n dX4_push_23 rfl rfl ?_
  refine T_vi (Rc_of (hv4 0 (by decide)) rfl rfl) k_X4_heardCell ml_X4_142 im_yX4_heardCell se_RX4_yX4_heardCell ini_RX4 co_yX4_heardCell rfl de_X4_heardCell (by decide) (by decide) rfl (Nat.le_of_ble_eq_true rfl) dX4_push_24 ?_
  refine T_aload_n dX4_push_27 rfl rfl ?_
  refine T_g4F hv4 0 (by decide) fl_X4_7 rfl dX4_push_28 ?_
  refine T_iconst (v := nI 1) dX4_push_31 rfl ?_
  refine T_ialM hv4 _ (by omega) rfl dX4_push_32 ?_
  refine T_iasM hv4 _ (by omega) rfl dX4_push_33 ?_
  refine T_aload_n dX4_push_34 rfl rfl ?_
  refine T_vv (Rc_of (hv4 0 (by decide)) rfl rfl) (k_X4_keepZeroFast hv4) ml_X4_145 im_yX4_keepZeroFast se_RX4_yX4_keepZeroFast ini_RX4 co_yX4_keepZeroFast rfl de_X4_keepZeroFast (by decide) (by decide) rfl (Nat.le_of_ble_eq_true rfl) dX4_push_35 ?_
  refine T_vret rfl dX4_push_38 ?_
  exact ⟨rfl, rfl⟩
theorem pn1 {A B C : Prop} (h : A) : ¬ (¬ A ∧ B ∧ C) := fun q => q.1 h
theorem pn2 {A B C : Prop} (h : B) : ¬ (A ∧ ¬ B ∧ C) := fun q => q.2.1 h
theorem pn3 {A B C : Prop} (h : ¬ C) : ¬ (A ∧ B ∧ C) := fun q => h q.2.2
set_option maxHeartbeats 4000000 in
set_option maxRecDepth 100000 in
theorem k_X4_pull {X : Cx} {l : Launch} {σ0 : Hp} {h : Rg} {m : Nat → Int32} {a c : Nat} (hv4 : Lv X 4 0) (hw : Wm m) (ha : a < 4) (hc : c < 4) : Con X l yX4_pull cX4_pull 6 none 1 [.ref (adr X 4 0 0), .int (nI a), .int (nI c)] (setR σ0 4 0 (up1 h 1 m)) (Ex none (setR σ0 4 0 (up1 h 1 (mPl m a c)))) := by
  refine Con_of [some (.ref (adr X 4 0 0)), some (.int (nI a)), some (.int (nI c)), none, none, none] (by decide) rfl (Nat.le_of_ble_eq_true rfl) ?_
  have hW := hw.2.2.2.2
  have hC := hw.2.2.1
  have hck : ∀ k, (mHe (mP0 m a c) a c k) 0 = nI (mC m) := fun k => by rw [mHe_lo _ _ _ (by decide), mP0_lo _ _ _ (by decide)]; exact hw.1
  have hlp : ∀ (n k : Nat), k + n = mC m → ∀ v4 v5 : Option Value, T X l yX4_pull cX4_pull 6 none 1 61 [some (.ref (adr X 4 0 0)), some (.int (nI a)), some (.int (nI c)), some (.int (nI k)), v4, v5] [] (setR σ0 4 0 (up1 h 1 (mHe (mP0 m a c) a c k))) (Ex none (setR σ0 4 0 (up1 h 1 (mPl m a c)))) := by
    intro n
    induction n with
    | zero =>
      intro k hk v4 v5
      have hk : k = mC m := by omega
      subst hk
      refine T_iload_n dX4_pull_61 rfl rfl ?_
      refine T_aload_n dX4_pull_62 rfl rfl ?_
      refine T_g4F hv4 0 (by decide) fl_X4_7 rfl dX4_pull_63 ?_
      refine T_iconst (v := nI 0) dX4_pull_66 rfl ?_
      refine T_ialM hv4 _ (by omega) rfl dX4_pull_67 ?_
      refine T_icmp_ge 155 dX4_pull_68 (by decide) (fun h68 => ?_) (fun h68 => (absurd (by rw [hck]; exact nI_le (Nat.le_refl _) (by omega)) h68))
      refine T_aload_n dX4_pull_155 rfl rfl ?_
      refine T_vv (Rc_of (hv4 0 (by decide)) rfl rfl) (k_X4_keepZeroFast hv4) ml_X4_145 im_yX4_keepZeroFast se_RX4_yX4_keepZeroFast ini_RX4 co_yX4_keepZeroFast rfl de_X4_keepZeroFast (by decide) (by decide) rfl (Nat.le_of_ble_eq_true rfl) dX4_pull_156 ?_
      refine T_vret rfl dX4_pull_159 ?_
      exact ⟨rfl, rfl⟩
    | succ n ih =>
      intro k hk v4 v5
      have hnx := ih (k + 1) (by omega)
      have hk : k < mC m := by omega
      refine T_iload_n dX4_pull_61 rfl rfl ?_
      refine T_aload_n dX4_pull_62 rfl rfl ?_
      refine T_g4F hv4 0 (by decide) fl_X4_7 rfl dX4_pull_63 ?_
      refine T_iconst (v := nI 0) dX4_pull_66 rfl ?_
      refine T_ialM hv4 _ (by omega) rfl dX4_pull_67 ?_
      refine T_icmp_ge 155 dX4_pull_68 (by decide) (fun h68 => (absurd ((hck k) ▸ h68) (nI_ge hk (by omega)))) (fun h68 => ?_)
      refine T_aload_n dX4_pull_71 rfl rfl ?_
      refine T_g4F hv4 0 (by decide) fl_X4_7 rfl dX4_pull_72 ?_
      refine T_aload_n dX4_pull_75 rfl rfl ?_
      refine T_iload_n dX4_pull_76 rfl rfl ?_
      refine T_iload_n dX4_pull_77 rfl rfl ?_
      refine T_vi (Rc_of (hv4 0 (by decide)) rfl rfl) k_X4_heardCell ml_X4_142 im_yX4_heardCell se_RX4_yX4_heardCell ini_RX4 co_yX4_heardCell rfl de_X4_heardCell (by decide) (by decide) rfl (Nat.le_of_ble_eq_true rfl) dX4_pull_78 ?_
      refine T_ialM hv4 _ (by omega) rfl dX4_pull_81 ?_
      refine T_istore4 dX4_pull_82 rfl (by decide) ?_
      refine T_iload_n dX4_pull_84 rfl rfl ?_
      refine T_iload_n dX4_pull_85 rfl rfl ?_
      refine T_icmp_eq 114 dX4_pull_86 (by decide) (fun h86 => ?_) (fun h86 => ?_)
      · refine T_iconst (v := nI 0) dX4_pull_114 rfl ?_
        refine T_istore5 dX4_pull_115 rfl (by decide) ?_
        refine T_aload_n dX4_pull_117 rfl rfl ?_
        refine T_g4F hv4 0 (by decide) fl_X4_7 rfl dX4_pull_118 ?_
        refine T_aload_n dX4_pull_121 rfl rfl ?_
        refine T_iload_n dX4_pull_122 rfl rfl ?_
        refine T_iload_n dX4_pull_123 rfl rfl ?_
        refine T_vi (Rc_of (hv4 0 (by decide)) rfl rfl) k_X4_heardCell ml_X4_142 im_yX4_heardCell se_RX4_yX4_heardCell ini_RX4 co_yX4_heardCell rfl de_X4_heardCell (by decide) (by decide) rfl (Nat.le_of_ble_eq_true rfl) dX4_pull_124 ?_
        refine T_iload dX4_pull_127 rfl ?_
        refine T_if_eq 137 dX4_pull_129 (by decide) (fun h129 => ?_) (fun h129 => ?_)
        · refine T_aload_n dX4_pull_137 rfl rfl ?_
          refine T_g4F hv4 0 (by decide) fl_X4_7 rfl dX4_pull_138 ?_
          refine T_aload_n dX4_pull_141 rfl rfl ?_
          refine T_iload_n dX4_pull_142 rfl rfl ?_
          refine T_iload_n dX4_pull_143 rfl rfl ?_
          refine T_vi (Rc_of (hv4 0 (by decide)) rfl rfl) k_X4_heardCell ml_X4_142 im_yX4_heardCell se_RX4_yX4_heardCell ini_RX4 co_yX4_heardCell rfl de_X4_heardCell (by decide) (by decide) rfl (Nat.le_of_ble_eq_true rfl) dX4_pull_144 ?_
          refine T_ialM hv4 _ (by omega) rfl dX4_pull_147 ?_
          refine T_iasM hv4 _ (by omega) rfl dX4_pull_148 ?_
          first | refine T_iincN3 dX4_pull_149 rfl (by decide) ?_ | refine T_iinc3 dX4_pull_149 rfl rfl (by decide) ?_
          refine T_goto 61 dX4_pull_152 (by decide) ?_
          first | exact (nope1 h129).elim | exact (nope0 h129).elim | (rw [mHe, if_neg (pn1 (nIe h86 (by omega) (by omega)))] at hnx; exact hnx _ _) | (rw [mHe, if_neg (pn2 (nIe h91 (by omega) (by omega)))] at hnx; exact hnx _ _) | (rw [mHe, if_neg (pn3 (Int32.not_lt.mpr h107))] at hnx; exact hnx _ _) | (rw [mHe, if_pos (an0 (nIn h86) (nIn h91) (Int32.not_le.mp h107))] at hnx; exact hnx _ _)
        · refine T_iload dX4_pull_132 rfl ?_
          refine T_goto 148 dX4_pull_134 (by decide) ?_
          refine T_iasM hv4 _ (by omega) rfl dX4_pull_148 ?_
          first | refine T_iincN3 dX4_pull_149 rfl (by decide) ?_ | refine T_iinc3 dX4_pull_149 rfl rfl (by decide) ?_
          refine T_goto 61 dX4_pull_152 (by decide) ?_
          first | exact (nope1 h129).elim | exact (nope0 h129).elim | (rw [mHe, if_neg (pn1 (nIe h86 (by omega) (by omega)))] at hnx; exact hnx _ _) | (rw [mHe, if_neg (pn2 (nIe h91 (by omega) (by omega)))] at hnx; exact hnx _ _) | (rw [mHe, if_neg (pn3 (Int32.not_lt.mpr h107))] at hnx; exact hnx _ _) | (rw [mHe, if_pos (an0 (nIn h86) (nIn h91) (Int32.not_le.mp h107))] at hnx; exact hnx _ _)
      · refine T_iload_n dX4_pull_89 rfl rfl ?_
        refine T_iload_n dX4_pull_90 rfl rfl ?_
        refine T_icmp_eq 114 dX4_pull_91 (by decide) (fun h91 => ?_) (fun h91 => ?_)
        · refine T_iconst (v := nI 0) dX4_pull_114 rfl ?_
          refine T_istore5 dX4_pull_115 rfl (by decide) ?_
          refine T_aload_n dX4_pull_117 rfl rfl ?_
          refine T_g4F hv4 0 (by decide) fl_X4_7 rfl dX4_pull_118 ?_
          refine T_aload_n dX4_pull_121 rfl rfl ?_
          refine T_iload_n dX4_pull_122 rfl rfl ?_
          refine T_iload_n dX4_pull_123 rfl rfl ?_
          refine T_vi (Rc_of (hv4 0 (by decide)) rfl rfl) k_X4_heardCell ml_X4_142 im_yX4_heardCell se_RX4_yX4_heardCell ini_RX4 co_yX4_heardCell rfl de_X4_heardCell (by decide) (by decide) rfl (Nat.le_of_ble_eq_true rfl) dX4_pull_124 ?_
          refine T_iload dX4_pull_127 rfl ?_
          refine T_if_eq 137 dX4_pull_129 (by decide) (fun h129 => ?_) (fun h129 => ?_)
          · refine T_aload_n dX4_pull_137 rfl rfl ?_
            refine T_g4F hv4 0 (by decide) fl_X4_7 rfl dX4_pull_138 ?_
            refine T_aload_n dX4_pull_141 rfl rfl ?_
            refine T_iload_n dX4_pull_142 rfl rfl ?_
            refine T_iload_n dX4_pull_143 rfl rfl ?_
            refine T_vi (Rc_of (hv4 0 (by decide)) rfl rfl) k_X4_heardCell ml_X4_142 im_yX4_heardCell se_RX4_yX4_heardCell ini_RX4 co_yX4_heardCell rfl de_X4_heardCell (by decide) (by decide) rfl (Nat.le_of_ble_eq_true rfl) dX4_pull_144 ?_
            refine T_ialM hv4 _ (by omega) rfl dX4_pull_147 ?_
            refine T_iasM hv4 _ (by omega) rfl dX4_pull_148 ?_
            first | refine T_iincN3 dX4_pull_149 rfl (by decide) ?_ | refine T_iinc3 dX4_pull_149 rfl rfl (by decide) ?_
            refine T_goto 61 dX4_pull_152 (by decide) ?_
            first | exact (nope1 h129).elim | exact (nope0 h129).elim | (rw [mHe, if_neg (pn1 (nIe h86 (by omega) (by omega)))] at hnx; exact hnx _ _) | (rw [mHe, if_neg (pn2 (nIe h91 (by omega) (by omega)))] at hnx; exact hnx _ _) | (rw [mHe, if_neg (pn3 (Int32.not_lt.mpr h107))] at hnx; exact hnx _ _) | (rw [mHe, if_pos (an0 (nIn h86) (nIn h91) (Int32.not_le.mp h107))] at hnx; exact hnx _ _)
          · refine T_iload dX4_pull_132 rfl ?_
            refine T_goto 148 dX4_pull_134 (by decide) ?_
            refine T_iasM hv4 _ (by omega) rfl dX4_pull_148 ?_
            first | refine T_iincN3 dX4_pull_149 rfl (by decide) ?_ | refine T_iinc3 dX4_pull_149 rfl rfl (by decide) ?_
            refine T_goto 61 dX4_pull_152 (by decide) ?_
            first | exact (nope1 h129).elim | exact (nope0 h129).elim | (rw [mHe, if_neg (pn1 (nIe h86 (by omega) (by omega)))] at hnx; exact hnx _ _) | (rw [mHe, if_neg (pn2 (nIe h91 (by omega) (by omega)))] at hnx; exact hnx _ _) | (rw [mHe, if_neg (pn3 (Int32.not_lt.mpr h107))] at hnx; exact hnx _ _) | (rw [mHe, if_pos (an0 (nIn h86) (nIn h91) (Int32.not_le.mp h107))] at hnx; exact hnx _ _)
        · refine T_iload dX4_pull_94 rfl ?_
          refine T_aload_n dX4_pull_96 rfl rfl ?_
          refine T_g4F hv4 0 (by decide) fl_X4_7 rfl dX4_pull_97 ?_
          refine T_aload_n dX4_pull_100 rfl rfl ?_
          refine T_iload_n dX4_pull_101 rfl rfl ?_
          refine T_iload_n dX4_pull_102 rfl rfl ?_
          refine T_vi (Rc_of (hv4 0 (by decide)) rfl rfl) k_X4_heardCell ml_X4_142 im_yX4_heardCell se_RX4_yX4_heardCell ini_RX4 co_yX4_heardCell rfl de_X4_heardCell (by decide) (by decide) rfl (Nat.le_of_ble_eq_true rfl) dX4_pull_103 ?_
          refine T_ialM hv4 _ (by omega) rfl dX4_pull_106 ?_
          refine T_icmp_le 114 dX4_pull_107 (by decide) (fun h107 => ?_) (fun h107 => ?_)
          · refine T_iconst (v := nI 0) dX4_pull_114 rfl ?_
            refine T_istore5 dX4_pull_115 rfl (by decide) ?_
            refine T_aload_n dX4_pull_117 rfl rfl ?_
            refine T_g4F hv4 0 (by decide) fl_X4_7 rfl dX4_pull_118 ?_
            refine T_aload_n dX4_pull_121 rfl rfl ?_
            refine T_iload_n dX4_pull_122 rfl rfl ?_
            refine T_iload_n dX4_pull_123 rfl rfl ?_
            refine T_vi (Rc_of (hv4 0 (by decide)) rfl rfl) k_X4_heardCell ml_X4_142 im_yX4_heardCell se_RX4_yX4_heardCell ini_RX4 co_yX4_heardCell rfl de_X4_heardCell (by decide) (by decide) rfl (Nat.le_of_ble_eq_true rfl) dX4_pull_124 ?_
            refine T_iload dX4_pull_127 rfl ?_
            refine T_if_eq 137 dX4_pull_129 (by decide) (fun h129 => ?_) (fun h129 => ?_)
            · refine T_aload_n dX4_pull_137 rfl rfl ?_
              refine T_g4F hv4 0 (by decide) fl_X4_7 rfl dX4_pull_138 ?_
              refine T_aload_n dX4_pull_141 rfl rfl ?_
              refine T_iload_n dX4_pull_142 rfl rfl ?_
              refine T_iload_n dX4_pull_143 rfl rfl ?_
              refine T_vi (Rc_of (hv4 0 (by decide)) rfl rfl) k_X4_heardCell ml_X4_142 im_yX4_heardCell se_RX4_yX4_heardCell ini_RX4 co_yX4_heardCell rfl de_X4_heardCell (by decide) (by decide) rfl (Nat.le_of_ble_eq_true rfl) dX4_pull_144 ?_
              refine T_ialM hv4 _ (by omega) rfl dX4_pull_147 ?_
              refine T_iasM hv4 _ (by omega) rfl dX4_pull_148 ?_
              first | refine T_iincN3 dX4_pull_149 rfl (by decide) ?_ | refine T_iinc3 dX4_pull_149 rfl rfl (by decide) ?_
              refine T_goto 61 dX4_pull_152 (by decide) ?_
              first | exact (nope1 h129).elim | exact (nope0 h129).elim | (rw [mHe, if_neg (pn1 (nIe h86 (by omega) (by omega)))] at hnx; exact hnx _ _) | (rw [mHe, if_neg (pn2 (nIe h91 (by omega) (by omega)))] at hnx; exact hnx _ _) | (rw [mHe, if_neg (pn3 (Int32.not_lt.mpr h107))] at hnx; exact hnx _ _) | (rw [mHe, if_pos (an0 (nIn h86) (nIn h91) (Int32.not_le.mp h107))] at hnx; exact hnx _ _)
            · refine T_iload dX4_pull_132 rfl ?_
              refine T_goto 148 dX4_pull_134 (by decide) ?_
              refine T_iasM hv4 _ (by omega) rfl dX4_pull_148 ?_
              first | refine T_iincN3 dX4_pull_149 rfl (by decide) ?_ | refine T_iinc3 dX4_pull_149 rfl rfl (by decide) ?_
              refine T_goto 61 dX4_pull_152 (by decide) ?_
              first | exact (nope1 h129).elim | exact (nope0 h129).elim | (rw [mHe, if_neg (pn1 (nIe h86 (by omega) (by omega)))] at hnx; exact hnx _ _) | (rw [mHe, if_neg (pn2 (nIe h91 (by omega) (by omega)))] at hnx; exact hnx _ _) | (rw [mHe, if_neg (pn3 (Int32.not_lt.mpr h107))] at hnx; exact hnx _ _) | (rw [mHe, if_pos (an0 (nIn h86) (nIn h91) (Int32.not_le.mp h107))] at hnx; exact hnx _ _)
          · refine T_iconst (v := nI 1) dX4_pull_110 rfl ?_
            refine T_goto 115 dX4_pull_111 (by decide) ?_
            refine T_istore5 dX4_pull_115 rfl (by decide) ?_
            refine T_aload_n dX4_pull_117 rfl rfl ?_
            refine T_g4F hv4 0 (by decide) fl_X4_7 rfl dX4_pull_118 ?_
            refine T_aload_n dX4_pull_121 rfl rfl ?_
            refine T_iload_n dX4_pull_122 rfl rfl ?_
            refine T_iload_n dX4_pull_123 rfl rfl ?_
            refine T_vi (Rc_of (hv4 0 (by decide)) rfl rfl) k_X4_heardCell ml_X4_142 im_yX4_heardCell se_RX4_yX4_heardCell ini_RX4 co_yX4_heardCell rfl de_X4_heardCell (by decide) (by decide) rfl (Nat.le_of_ble_eq_true rfl) dX4_pull_124 ?_
            refine T_iload dX4_pull_127 rfl ?_
            refine T_if_eq 137 dX4_pull_129 (by decide) (fun h129 => ?_) (fun h129 => ?_)
            · refine T_aload_n dX4_pull_137 rfl rfl ?_
              refine T_g4F hv4 0 (by decide) fl_X4_7 rfl dX4_pull_138 ?_
              refine T_aload_n dX4_pull_141 rfl rfl ?_
              refine T_iload_n dX4_pull_142 rfl rfl ?_
              refine T_iload_n dX4_pull_143 rfl rfl ?_
              refine T_vi (Rc_of (hv4 0 (by decide)) rfl rfl) k_X4_heardCell ml_X4_142 im_yX4_heardCell se_RX4_yX4_heardCell ini_RX4 co_yX4_heardCell rfl de_X4_heardCell (by decide) (by decide) rfl (Nat.le_of_ble_eq_true rfl) dX4_pull_144 ?_
              refine T_ialM hv4 _ (by omega) rfl dX4_pull_147 ?_
              refine T_iasM hv4 _ (by omega) rfl dX4_pull_148 ?_
              first | refine T_iincN3 dX4_pull_149 rfl (by decide) ?_ | refine T_iinc3 dX4_pull_149 rfl rfl (by decide) ?_
              refine T_goto 61 dX4_pull_152 (by decide) ?_
              first | exact (nope1 h129).elim | exact (nope0 h129).elim | (rw [mHe, if_neg (pn1 (nIe h86 (by omega) (by omega)))] at hnx; exact hnx _ _) | (rw [mHe, if_neg (pn2 (nIe h91 (by omega) (by omega)))] at hnx; exact hnx _ _) | (rw [mHe, if_neg (pn3 (Int32.not_lt.mpr h107))] at hnx; exact hnx _ _) | (rw [mHe, if_pos (an0 (nIn h86) (nIn h91) (Int32.not_le.mp h107))] at hnx; exact hnx _ _)
            · refine T_iload dX4_pull_132 rfl ?_
              refine T_goto 148 dX4_pull_134 (by decide) ?_
              refine T_iasM hv4 _ (by omega) rfl dX4_pull_148 ?_
              first | refine T_iincN3 dX4_pull_149 rfl (by decide) ?_ | refine T_iinc3 dX4_pull_149 rfl rfl (by decide) ?_
              refine T_goto 61 dX4_pull_152 (by decide) ?_
              first | exact (nope1 h129).elim | exact (nope0 h129).elim | (rw [mHe, if_neg (pn1 (nIe h86 (by omega) (by omega)))] at hnx; exact hnx _ _) | (rw [mHe, if_neg (pn2 (nIe h91 (by omega) (by omega)))] at hnx; exact hnx _ _) | (rw [mHe, if_neg (pn3 (Int32.not_lt.mpr h107))] at hnx; exact hnx _ _) | (rw [mHe, if_pos (an0 (nIn h86) (nIn h91) (Int32.not_le.mp h107))] at hnx; exact hnx _ _)
  refine T_aload_n dX4_pull_0 rfl rfl ?_
  refine T_g4F hv4 0 (by decide) fl_X4_7 rfl dX4_pull_1 ?_
  refine T_bipush (v := nI 87) dX4_pull_4 (by decide) ?_
  refine T_iload_n dX4_pull_6 rfl rfl ?_
  first | refine T_iaddN dX4_pull_7 ?_ | refine T_iadd dX4_pull_7 ?_
  refine T_dup2 dX4_pull_8 rfl rfl ?_
  refine T_ialM hv4 _ (by omega) rfl dX4_pull_9 ?_
  refine T_aload_n dX4_pull_10 rfl rfl ?_
  refine T_g4F hv4 0 (by decide) fl_X4_7 rfl dX4_pull_11 ?_
  refine T_bipush (v := nI 87) dX4_pull_14 (by decide) ?_
  refine T_iload_n dX4_pull_16 rfl rfl ?_
  first | refine T_iaddN dX4_pull_17 ?_ | refine T_iadd dX4_pull_17 ?_
  refine T_ialM hv4 _ (by omega) rfl dX4_pull_18 ?_
  refine T_ior dX4_pull_19 ?_
  refine T_iasM hv4 _ (by omega) rfl dX4_pull_20 ?_
  refine T_aload_n dX4_pull_21 rfl rfl ?_
  refine T_g4F hv4 0 (by decide) fl_X4_7 rfl dX4_pull_22 ?_
  refine T_bipush (v := nI 91) dX4_pull_25 (by decide) ?_
  refine T_iload_n dX4_pull_27 rfl rfl ?_
  first | refine T_iaddN dX4_pull_28 ?_ | refine T_iadd dX4_pull_28 ?_
  refine T_dup2 dX4_pull_29 rfl rfl ?_
  refine T_ialM hv4 _ (by omega) rfl dX4_pull_30 ?_
  refine T_aload_n dX4_pull_31 rfl rfl ?_
  refine T_g4F hv4 0 (by decide) fl_X4_7 rfl dX4_pull_32 ?_
  refine T_bipush (v := nI 91) dX4_pull_35 (by decide) ?_
  refine T_iload_n dX4_pull_37 rfl rfl ?_
  first | refine T_iaddN dX4_pull_38 ?_ | refine T_iadd dX4_pull_38 ?_
  refine T_ialM hv4 _ (by omega) rfl dX4_pull_39 ?_
  refine T_ior dX4_pull_40 ?_
  refine T_iasM hv4 _ (by omega) rfl dX4_pull_41 ?_
  refine T_aload_n dX4_pull_42 rfl rfl ?_
  refine T_g4F hv4 0 (by decide) fl_X4_7 rfl dX4_pull_43 ?_
  refine T_aload_n dX4_pull_46 rfl rfl ?_
  refine T_iload_n dX4_pull_47 rfl rfl ?_
  refine T_iload_n dX4_pull_48 rfl rfl ?_
  refine T_vi (Rc_of (hv4 0 (by decide)) rfl rfl) k_X4_heardCell ml_X4_142 im_yX4_heardCell se_RX4_yX4_heardCell ini_RX4 co_yX4_heardCell rfl de_X4_heardCell (by decide) (by decide) rfl (Nat.le_of_ble_eq_true rfl) dX4_pull_49 ?_
  refine T_aload_n dX4_pull_52 rfl rfl ?_
  refine T_g4F hv4 0 (by decide) fl_X4_7 rfl dX4_pull_53 ?_
  refine T_iconst (v := nI 1) dX4_pull_56 rfl ?_
  refine T_ialM hv4 _ (by omega) rfl dX4_pull_57 ?_
  refine T_iasM hv4 _ (by omega) rfl dX4_pull_58 ?_
  refine T_iconst (v := nI 0) dX4_pull_59 rfl ?_
  refine T_istore3 dX4_pull_60 rfl (by decide) ?_
  exact hlp (mC m) 0 (by omega) none none
set_option maxHeartbeats 4000000 in
set_option maxRecDepth 100000 in
theorem k_X4_readBy {X : Cx} {l : Launch} {σ0 : Hp} {h : Rg} {m : Nat → Int32} {a : Nat} (hv4 : Lv X 4 0) (hw : Wm m) (ha : a < 4) : Con X l yX4_readBy cX4_readBy 4 (some .int) 2 [.ref (adr X 4 0 0), .int (nI a)] (setR σ0 4 0 (up1 h 1 m)) (Ex (some (.int (nI (mRd m a).2))) (setR σ0 4 0 (up1 h 1 (mRd m a).1))) := by
  refine Con_of [some (.ref (adr X 4 0 0)), some (.int (nI a)), none, none] (by decide) rfl (Nat.le_of_ble_eq_true rfl) ?_
  have hW := hw.2.2.2.2
  have hC := hw.2.2.1
  have hwk : ∀ k, Wm (mRe m a k).1 := fun k => hw.congr (mRe_lo _ _ (by decide) k) (mRe_lo _ _ (by decide) k)
  have hck : ∀ k, (mRe m a k).1 0 = nI (mC m) := fun k => by rw [mRe_lo _ _ (by decide)]; exact hw.1
  have hlp : ∀ (n k : Nat), k + n = mC m → T X l yX4_readBy cX4_readBy 4 (some .int) 2 4 [some (.ref (adr X 4 0 0)), some (.int (nI a)), some (.int (nI (mRe m a k).2)), some (.int (nI k))] [] (setR σ0 4 0 (up1 h 1 (mRe m a k).1)) (Ex (some (.int (nI (mRd m a).2))) (setR σ0 4 0 (up1 h 1 (mRd m a).1))) := by
    intro n
    induction n with
    | zero =>
      intro k hk
      have hk : k = mC m := by omega
      subst hk
      refine T_iload_n dX4_readBy_4 rfl rfl ?_
      refine T_aload_n dX4_readBy_5 rfl rfl ?_
      refine T_g4F hv4 0 (by decide) fl_X4_7 rfl dX4_readBy_6 ?_
      refine T_iconst (v := nI 0) dX4_readBy_9 rfl ?_
      refine T_ialM hv4 _ (by omega) rfl dX4_readBy_10 ?_
      refine T_icmp_ge 67 dX4_readBy_11 (by decide) (fun h11 => ?_) (fun h11 => (absurd (by rw [hck]; exact nI_le (Nat.le_refl _) (by omega)) h11))
      refine T_aload_n dX4_readBy_67 rfl rfl ?_
      refine T_iload_n dX4_readBy_68 rfl rfl ?_
      refine T_vi (Rc_of (hv4 0 (by decide)) rfl rfl) (k_X4_slowCount hv4 (by omega)) ml_X4_152 im_yX4_slowCount se_RX4_yX4_slowCount ini_RX4 co_yX4_slowCount rfl de_X4_slowCount (by decide) (by decide) rfl (Nat.le_of_ble_eq_true rfl) dX4_readBy_69 ?_
      refine T_aload_n dX4_readBy_72 rfl rfl ?_
      refine T_g4F hv4 0 (by decide) fl_X4_7 rfl dX4_readBy_73 ?_
      refine T_iconst (v := nI 2) dX4_readBy_76 rfl ?_
      refine T_iconst (v := nI 3) dX4_readBy_77 rfl ?_
      refine T_iload_n dX4_readBy_78 rfl rfl ?_
      first | refine T_imulN dX4_readBy_79 ?_ | refine T_imul dX4_readBy_79 ?_
      first | refine T_iaddN dX4_readBy_80 ?_ | refine T_iadd dX4_readBy_80 ?_
      refine T_iconst (v := nI 1) dX4_readBy_81 rfl ?_
      first | refine T_iaddN dX4_readBy_82 ?_ | refine T_iadd dX4_readBy_82 ?_
      refine T_ialM hv4 _ (by omega) rfl dX4_readBy_83 ?_
      refine T_icmp_le 102 dX4_readBy_84 (by decide) (fun h84 => ?_) (fun h84 => ?_)
      · refine T_iload_n dX4_readBy_102 rfl rfl ?_
        refine T_iret rfl dX4_readBy_103 ?_
        first | (refine ⟨?_, ?_⟩ <;> rw [mRd, if_pos h84]) | (refine ⟨?_, ?_⟩ <;> rw [mRd, if_neg h84]; exact congrArg (fun z => some (Value.int z)) (nI_add _ 2))
      · refine T_aload_n dX4_readBy_87 rfl rfl ?_
        refine T_iconst (v := nI 0) dX4_readBy_88 rfl ?_
        refine T_iload_n dX4_readBy_89 rfl rfl ?_
        refine T_vv (Rc_of (hv4 0 (by decide)) rfl rfl) (k_X4_pull hv4 (hwk _) (by omega) (by omega)) ml_X4_148 im_yX4_pull se_RX4_yX4_pull ini_RX4 co_yX4_pull rfl de_X4_pull (by decide) (by decide) rfl (Nat.le_of_ble_eq_true rfl) dX4_readBy_90 ?_
        refine T_aload_n dX4_readBy_93 rfl rfl ?_
        refine T_iload_n dX4_readBy_94 rfl rfl ?_
        refine T_iconst (v := nI 0) dX4_readBy_95 rfl ?_
        refine T_vv (Rc_of (hv4 0 (by decide)) rfl rfl) (k_X4_pull hv4 ((hwk _).congr (mPl_lo _ _ _ (by decide)) (mPl_lo _ _ _ (by decide))) (by omega) (by omega)) ml_X4_148 im_yX4_pull se_RX4_yX4_pull ini_RX4 co_yX4_pull rfl de_X4_pull (by decide) (by decide) rfl (Nat.le_of_ble_eq_true rfl) dX4_readBy_96 ?_
        refine T_iinc2 dX4_readBy_99 rfl rfl (by decide) ?_
        refine T_iload_n dX4_readBy_102 rfl rfl ?_
        refine T_iret rfl dX4_readBy_103 ?_
        first | (refine ⟨?_, ?_⟩ <;> rw [mRd, if_pos h84]) | (refine ⟨?_, ?_⟩ <;> rw [mRd, if_neg h84]; exact congrArg (fun z => some (Value.int z)) (nI_add _ 2))
    | succ n ih =>
      intro k hk
      have hnx := ih (k + 1) (by omega)
      have hk : k < mC m := by omega
      refine T_iload_n dX4_readBy_4 rfl rfl ?_
      refine T_aload_n dX4_readBy_5 rfl rfl ?_
      refine T_g4F hv4 0 (by decide) fl_X4_7 rfl dX4_readBy_6 ?_
      refine T_iconst (v := nI 0) dX4_readBy_9 rfl ?_
      refine T_ialM hv4 _ (by omega) rfl dX4_readBy_10 ?_
      refine T_icmp_ge 67 dX4_readBy_11 (by decide) (fun h11 => (absurd ((hck k) ▸ h11) (nI_ge hk (by omega)))) (fun h11 => ?_)
      refine T_iload_n dX4_readBy_14 rfl rfl ?_
      refine T_iload_n dX4_readBy_15 rfl rfl ?_
      refine T_icmp_eq 61 dX4_readBy_16 (by decide) (fun h16 => ?_) (fun h16 => ?_)
      · first | refine T_iincN3 dX4_readBy_61 rfl (by decide) ?_ | refine T_iinc3 dX4_readBy_61 rfl rfl (by decide) ?_
        refine T_goto 4 dX4_readBy_64 (by decide) ?_
        first | (rw [mRe, if_pos (nIe h16 (by omega) (by omega))] at hnx; exact hnx) | (rw [mRe, if_neg (nIn h16), if_pos h49] at hnx; exact hnx) | (rw [mRe, if_neg (nIn h16), if_neg h49] at hnx; exact hnx)
      · refine T_aload_n dX4_readBy_19 rfl rfl ?_
        refine T_g4F hv4 0 (by decide) fl_X4_7 rfl dX4_readBy_20 ?_
        refine T_iconst (v := nI 1) dX4_readBy_23 rfl ?_
        refine T_ialM hv4 _ (by omega) rfl dX4_readBy_24 ?_
        refine T_aload_n dX4_readBy_25 rfl rfl ?_
        refine T_g4F hv4 0 (by decide) fl_X4_7 rfl dX4_readBy_26 ?_
        refine T_aload_n dX4_readBy_29 rfl rfl ?_
        refine T_iload_n dX4_readBy_30 rfl rfl ?_
        refine T_iload_n dX4_readBy_31 rfl rfl ?_
        refine T_vi (Rc_of (hv4 0 (by decide)) rfl rfl) k_X4_heardCell ml_X4_142 im_yX4_heardCell se_RX4_yX4_heardCell ini_RX4 co_yX4_heardCell rfl de_X4_heardCell (by decide) (by decide) rfl (Nat.le_of_ble_eq_true rfl) dX4_readBy_32 ?_
        refine T_ialM hv4 _ (by omega) rfl dX4_readBy_35 ?_
        refine T_isub dX4_readBy_36 ?_
        refine T_aload_n dX4_readBy_37 rfl rfl ?_
        refine T_g4F hv4 0 (by decide) fl_X4_7 rfl dX4_readBy_38 ?_
        refine T_iconst (v := nI 2) dX4_readBy_41 rfl ?_
        refine T_iconst (v := nI 3) dX4_readBy_42 rfl ?_
        refine T_iload_n dX4_readBy_43 rfl rfl ?_
        first | refine T_imulN dX4_readBy_44 ?_ | refine T_imul dX4_readBy_44 ?_
        first | refine T_iaddN dX4_readBy_45 ?_ | refine T_iadd dX4_readBy_45 ?_
        refine T_iconst (v := nI 2) dX4_readBy_46 rfl ?_
        first | refine T_iaddN dX4_readBy_47 ?_ | refine T_iadd dX4_readBy_47 ?_
        refine T_ialM hv4 _ (by omega) rfl dX4_readBy_48 ?_
        refine T_icmp_le 61 dX4_readBy_49 (by decide) (fun h49 => ?_) (fun h49 => ?_)
        · first | refine T_iincN3 dX4_readBy_61 rfl (by decide) ?_ | refine T_iinc3 dX4_readBy_61 rfl rfl (by decide) ?_
          refine T_goto 4 dX4_readBy_64 (by decide) ?_
          first | (rw [mRe, if_pos (nIe h16 (by omega) (by omega))] at hnx; exact hnx) | (rw [mRe, if_neg (nIn h16), if_pos h49] at hnx; exact hnx) | (rw [mRe, if_neg (nIn h16), if_neg h49] at hnx; exact hnx)
        · refine T_aload_n dX4_readBy_52 rfl rfl ?_
          refine T_iload_n dX4_readBy_53 rfl rfl ?_
          refine T_iload_n dX4_readBy_54 rfl rfl ?_
          refine T_vv (Rc_of (hv4 0 (by decide)) rfl rfl) (k_X4_pull hv4 (hwk k) (by omega) (by omega)) ml_X4_148 im_yX4_pull se_RX4_yX4_pull ini_RX4 co_yX4_pull rfl de_X4_pull (by decide) (by decide) rfl (Nat.le_of_ble_eq_true rfl) dX4_readBy_55 ?_
          first | refine T_iincN2 dX4_readBy_58 rfl (by decide) ?_ | refine T_iinc2 dX4_readBy_58 rfl rfl (by decide) ?_
          first | refine T_iincN3 dX4_readBy_61 rfl (by decide) ?_ | refine T_iinc3 dX4_readBy_61 rfl rfl (by decide) ?_
          refine T_goto 4 dX4_readBy_64 (by decide) ?_
          first | (rw [mRe, if_pos (nIe h16 (by omega) (by omega))] at hnx; exact hnx) | (rw [mRe, if_neg (nIn h16), if_pos h49] at hnx; exact hnx) | (rw [mRe, if_neg (nIn h16), if_neg h49] at hnx; exact hnx)
  refine T_iconst (v := nI 0) dX4_readBy_0 rfl ?_
  refine T_istore2 dX4_readBy_1 rfl (by decide) ?_
  refine T_iconst (v := nI 0) dX4_readBy_2 rfl ?_
  refine T_istore3 dX4_readBy_3 rfl (by decide) ?_
  exact hlp (mC m) 0 (by omega)
