abbrev icM (m : Nat → Int32) (c : Int32) : Prop := inB c (nI 0) (m 0 - nI 1)
abbrev apM (m : Nat → Int32) (a c : Int32) : Prop := icM m a ∧ icM m c ∧ ¬ a = c
theorem icM_i {m : Nat → Int32} (hw : Wm m) {c : Int32} (q : icM m c) : ∃ i, i < mC m ∧ c = nI i := by
  have h2 := hw.2.1
  have h4 := hw.2.2.1
  have e : m 0 - nI 1 = nI (mC m - 1) := by rw [hw.1, pk_sub (by omega)]
  have h0 : ¬ c < 0 := q.1
  obtain ⟨j, hj, rfl⟩ := nI_of h0
  have q2 := q.2
  rw [e] at q2
  exact ⟨j, Nat.lt_of_not_le fun z => q2 (nI_lt (by omega) hj), rfl⟩
theorem icM_of {m : Nat → Int32} (hw : Wm m) {i : Nat} (hi : i < mC m) : icM m (nI i) := by
  have h2 := hw.2.1
  have h4 := hw.2.2.1
  have e : m 0 - nI 1 = nI (mC m - 1) := by rw [hw.1, pk_sub (by omega)]
  refine ⟨nI_pos (by omega), ?_⟩
  rw [e]
  exact nI_nlt (by omega) (by omega)
def mN1 (m : Nat → Int32) (i : Nat) (w : Int32) : Nat → Int32 := upd (upd m (15 + 3 * mW m) (nI i)) (15 + 3 * mW m + 1) w
def mN2 (m : Nat → Int32) (i : Nat) (w : Int32) : Nat → Int32 := upd (mN1 m i w) (15 + 3 * mW m + 2) (mN1 m i w 1)
def mN3 (m : Nat → Int32) (i : Nat) (w : Int32) : Nat → Int32 := upd (mN2 m i w) 14 (mN2 m i w 14 + nI 1)
def mNw (m : Nat → Int32) (i : Nat) (w : Int32) : Nat → Int32 := mKz (upd (mN3 m i w) (87 + i) (mN3 m i w (87 + i) ||| (nI 1 <<< (nI (mW m) &&& 31))))
def mAc (m : Nat → Int32) (c : Nat) : Nat → (Nat → Int32) × Nat
  | 0 => (m, 0)
  | n + 1 => if n = c then mAc m c n else if mLf (mAc m c n).1 c n < 0 then (mPu (mAc m c n).1 c n, (mAc m c n).2 + 1) else mAc m c n
def mBn (m : Nat → Int32) (a : Nat) : Nat → (Nat → Int32) × Nat
  | 0 => (m, 0)
  | n + 1 => if n = a then mBn m a n else if mLf (mBn m a n).1 n a < 0 then (mPu (mBn m a n).1 n a, (mBn m a n).2 + 1) else mBn m a n
theorem mAc_lo (m : Nat → Int32) (c : Nat) {j : Nat} (hj : j < 87) : ∀ n, (mAc m c n).1 j = m j
  | 0 => rfl
  | n + 1 => by
    rw [mAc]
    split
    · exact mAc_lo m c hj n
    · split
      · show mPu _ _ _ _ = _
        rw [mPu_lo _ _ _ hj]; exact mAc_lo m c hj n
      · exact mAc_lo m c hj n
theorem mBn_lo (m : Nat → Int32) (a : Nat) {j : Nat} (hj : j < 87) : ∀ n, (mBn m a n).1 j = m j
  | 0 => rfl
  | n + 1 => by
    rw [mBn]
    split
    · exact mBn_lo m a hj n
    · split
      · show mPu _ _ _ _ = _
        rw [mPu_lo _ _ _ hj]; exact mBn_lo m a hj n
      · exact mBn_lo m a hj n
theorem mNw_14 (m : Nat → Int32) {i : Nat} (hi : i < 4) (w : Int32) : mNw m i w 14 = m 14 + nI 1 := by
  unfold mNw mKz
  rw [upd_ne (by omega), upd_ne (by omega)]
  unfold mN3
  rw [upd_eq]
  unfold mN2 mN1
  rw [upd_ne (by omega), upd_ne (by omega), upd_ne (by omega)]
theorem mNw_0 (m : Nat → Int32) {i : Nat} (hi : i < 4) (w : Int32) : mNw m i w 0 = m 0 := by
  unfold mNw mKz mN3 mN2 mN1
  rw [upd_ne (by omega), upd_ne (by omega), upd_ne (by omega), upd_ne (by omega), upd_ne (by omega), upd_ne (by omega)]
theorem mNw_W {m : Nat → Int32} (hw : Wm m) (hM : mW m < 24) {i : Nat} (hi : i < 4) (w : Int32) : Wm (mNw m i w) ∧ mC (mNw m i w) = mC m ∧ mW (mNw m i w) = mW m + 1 := by
  have e0 := mNw_0 m hi w
  have e2 : mNw m i w 14 = nI (mW m + 1) := by rw [mNw_14 m hi, hw.2.2.2.1, nI_add]
  have c0 := mC_congr e0
  have c2 : mW (mNw m i w) = mW m + 1 := by
    have : mW (mNw m i w) = (mNw m i w 14).toNatClampNeg := rfl
    rw [this, e2, nI_clamp (by omega)]
  exact ⟨⟨by rw [c0, e0]; exact hw.1, by rw [c0]; exact hw.2.1, by rw [c0]; exact hw.2.2.1, by rw [c2]; exact e2, by rw [c2]; omega⟩, c0, c2⟩
def mMv (m : Nat → Int32) (a c e : Nat) (k : Int32) : Nat → Int32 := upd (upd m (111 + 4 * c + a) (m (111 + 4 * c + a) - k)) (111 + 4 * e + a) (upd m (111 + 4 * c + a) (m (111 + 4 * c + a) - k) (111 + 4 * e + a) + k)
def mTo (m : Nat → Int32) (a : Nat) : Nat → Int32
  | 0 => nI 0
  | n + 1 => if n = a then mTo m a n else mTo m a n + mLf m n a
def mEv (m : Nat → Int32) (a : Nat) (t : Int32) : Nat → (Nat → Int32)
  | 0 => m
  | n + 1 => if n = a then mEv m a t n else upd (mEv m a t n) (111 + 4 * n + a) (mOw (mEv m a t n) n a + t / nI (mC m - 1) + (if 0 < t - t / nI (mC m - 1) * nI (mC m - 1) - nI (rk a n) then nI 1 else nI 0))
theorem mEv_lo (m : Nat → Int32) (a : Nat) (t : Int32) {j : Nat} (hj : j < 111) : ∀ n, mEv m a t n j = m j
  | 0 => rfl
  | n + 1 => by
    rw [mEv]
    split
    · exact mEv_lo m a t hj n
    · rw [upd_ne (by omega)]; exact mEv_lo m a t hj n
def mSb (m : Nat → Int32) (a : Nat) (x y z : Int32) : Nat → Int32 := upd (upd (upd m (2 + 3 * a) x) (2 + 3 * a + 1) y) (2 + 3 * a + 2) z
def mBi (m : Nat → Int32) (a : Nat) (x y z : Int32) : (Nat → Int32) × Nat := mBn (if m (2 + 3 * a) = x then mSb m a x y z else sbS (mSb m a x y z) a (mC m)) a (mC m)
theorem mSb_W {m : Nat → Int32} (hw : Wm m) {a : Nat} (ha : a < 4) (x y z : Int32) : Wm (mSb m a x y z) ∧ mC (mSb m a x y z) = mC m := by
  have e : ∀ j, (j < 2 ∨ j = 14) → mSb m a x y z j = m j := fun j hj => by
    unfold mSb
    rw [upd_ne (by omega), upd_ne (by omega), upd_ne (by omega)]
  exact ⟨hw.congr (e 0 (by omega)) (e 14 (by omega)), mC_congr (e 0 (by omega))⟩

theorem T_Q {X : Cx} {l : Launch} {y : MethodName} {cc : ByteArray} {nL : Nat} {ret : Option FieldType} {d pc : Nat} {ls : List (Option Value)} {st : List Value} {σ : Hp} {Q Q' : Option Value → Hp → Prop} (hq : ∀ r u, Q r u → Q' r u) (k : T X l y cc nL ret d pc ls st σ Q) : T X l y cc nL ret d pc ls st σ Q' := by
  intro p e s m args below meth c H locs lsA hF hP hS hl
  intro T0 hT X0
  obtain ⟨t, a, o, b1, b2, b3, b4⟩ := k p e s m args below meth c H locs lsA hF hP hS hl T0 hT X0
  obtain ⟨⟨r, u, c1, c2, c3⟩, c4⟩ := b3
  exact ⟨t, a, o, b1, b2, ⟨⟨r, u, c1, hq r u c2, c3⟩, c4⟩, b4⟩
set_option maxHeartbeats 4000000 in
set_option maxRecDepth 100000 in
theorem k_X4_accepts {X : Cx} {l : Launch} {σ0 : Hp} {h : Rg} {m : Nat → Int32} {Q : Option Value → Hp → Prop} {n : Nat} {c w : Int32} (hv4 : Lv X 4 0) (hw : Wm m) (hn : h 0 4 = nI n) (hn8 : n ≤ 8) (hB : ¬ (icM m c ∧ inB w (nI 1) (nI 9)) → Q (some (.int (-1))) (setR σ0 4 0 (up1 h 1 m))) (hF : (icM m c ∧ inB w (nI 1) (nI 9)) → ¬ mW m < 24 → Q (some (.int (-3))) (setR σ0 4 0 (up1 h 1 m))) (hO : ∀ i, i < mC m → c = nI i → inB w (nI 1) (nI 9) → mW m < 24 → Q (some (.int (nI (mAc (mNw m i w) i (mC m)).2))) (setR σ0 4 0 (up1 (svR h m n) 1 (mAc (mNw m i w) i (mC m)).1))) : Con X l yX4_accepts cX4_accepts 6 (some .int) 4 [.ref (adr X 4 0 0), .int c, .int w] (setR σ0 4 0 (up1 h 1 m)) Q := by
  refine Con_of [some (.ref (adr X 4 0 0)), some (.int c), some (.int w), none, none, none] (by decide) rfl (Nat.le_of_ble_eq_true rfl) ?_
  have hW := hw.2.2.2.2
  have hC := hw.2.2.1
  have h128 : ∀ i, i < mC m → mW m < 24 → ∀ (e k : Nat), k + e = mC m → T X l yX4_accepts cX4_accepts 6 (some .int) 4 128 [some (.ref (adr X 4 0 0)), some (.int (nI i)), some (.int w), some (.int (nI (mW m))), some (.int (nI (mAc (mNw m i w) i k).2)), some (.int (nI k))] [] (setR σ0 4 0 (up1 (svR h m n) 1 (mAc (mNw m i w) i k).1)) (Ex (some (.int (nI (mAc (mNw m i w) i (mC m)).2))) (setR σ0 4 0 (up1 (svR h m n) 1 (mAc (mNw m i w) i (mC m)).1))) := by
    intro i hi hM
    obtain ⟨hw1, hc1, -⟩ := mNw_W hw hM (show i < 4 by omega) w
    have hwk : ∀ k, Wm (mAc (mNw m i w) i k).1 := fun k => hw1.congr (mAc_lo _ _ (by decide) k) (mAc_lo _ _ (by decide) k)
    have hck : ∀ k, (mAc (mNw m i w) i k).1 0 = nI (mC m) := fun k => by rw [mAc_lo _ _ (by decide), ← hc1]; exact hw1.1
    intro e
    induction e with
    | zero =>
      intro k hk
      have hk : k = mC m := by omega
      subst hk
      refine T_iload dX4_accepts_128 rfl ?_
      refine T_aload_n dX4_accepts_130 rfl rfl ?_
      refine T_g4F hv4 0 (by decide) fl_X4_7 rfl dX4_accepts_131 ?_
      refine T_iconst (v := nI 0) dX4_accepts_134 rfl ?_
      refine T_ialM hv4 _ (by omega) rfl dX4_accepts_135 ?_
      refine T_icmp_ge 171 dX4_accepts_136 (by decide) (fun h136 => ?_) (fun h136 => (absurd (by rw [hck]; exact nI_le (Nat.le_refl _) (by omega)) h136))
      refine T_iload dX4_accepts_171 rfl ?_
      refine T_iret rfl dX4_accepts_173 ?_
      exact ⟨rfl, rfl⟩
    | succ e ih =>
      intro k hk
      have hnx := ih (k + 1) (by omega)
      have hk : k < mC m := by omega
      refine T_iload dX4_accepts_128 rfl ?_
      refine T_aload_n dX4_accepts_130 rfl rfl ?_
      refine T_g4F hv4 0 (by decide) fl_X4_7 rfl dX4_accepts_131 ?_
      refine T_iconst (v := nI 0) dX4_accepts_134 rfl ?_
      refine T_ialM hv4 _ (by omega) rfl dX4_accepts_135 ?_
      refine T_icmp_ge 171 dX4_accepts_136 (by decide) (fun h136 => (absurd ((hck k) ▸ h136) (nI_ge hk (by omega)))) (fun h136 => ?_)
      refine T_iload dX4_accepts_139 rfl ?_
      refine T_iload_n dX4_accepts_141 rfl rfl ?_
      refine T_icmp_eq 165 dX4_accepts_142 (by decide) (fun h142 => ?_) (fun h142 => ?_)
      · first | refine T_iincN5 dX4_accepts_165 rfl (by decide) ?_ | refine T_iinc5 dX4_accepts_165 rfl rfl (by decide) ?_
        refine T_goto 128 dX4_accepts_168 (by decide) ?_
        first | (rw [mAc, if_pos (nIe h142 (by omega) (by omega))] at hnx; exact hnx) | (rw [mAc, if_neg (nIn h142), if_neg (Int32.not_lt.mpr h152)] at hnx; exact hnx) | (rw [mAc, if_neg (nIn h142), if_pos (Int32.not_le.mp h152)] at hnx; exact hnx)
      · refine T_aload_n dX4_accepts_145 rfl rfl ?_
        refine T_iload_n dX4_accepts_146 rfl rfl ?_
        refine T_iload dX4_accepts_147 rfl ?_
        refine T_vi (Rc_of (hv4 0 (by decide)) rfl rfl) (k_X4_left hv4 (hwk k) (by omega) (by omega)) ml_X4_158 im_yX4_left se_RX4_yX4_left ini_RX4 co_yX4_left rfl de_X4_left (by decide) (by decide) rfl (Nat.le_of_ble_eq_true rfl) dX4_accepts_149 ?_
        refine T_if_ge 165 dX4_accepts_152 (by decide) (fun h152 => ?_) (fun h152 => ?_)
        · first | refine T_iincN5 dX4_accepts_165 rfl (by decide) ?_ | refine T_iinc5 dX4_accepts_165 rfl rfl (by decide) ?_
          refine T_goto 128 dX4_accepts_168 (by decide) ?_
          first | (rw [mAc, if_pos (nIe h142 (by omega) (by omega))] at hnx; exact hnx) | (rw [mAc, if_neg (nIn h142), if_neg (Int32.not_lt.mpr h152)] at hnx; exact hnx) | (rw [mAc, if_neg (nIn h142), if_pos (Int32.not_le.mp h152)] at hnx; exact hnx)
        · refine T_aload_n dX4_accepts_155 rfl rfl ?_
          refine T_iload_n dX4_accepts_156 rfl rfl ?_
          refine T_iload dX4_accepts_157 rfl ?_
          refine T_vv (Rc_of (hv4 0 (by decide)) rfl rfl) (k_X4_push hv4 (hwk k) (by omega) (by omega)) ml_X4_161 im_yX4_push se_RX4_yX4_push ini_RX4 co_yX4_push rfl de_X4_push (by decide) (by decide) rfl (Nat.le_of_ble_eq_true rfl) dX4_accepts_159 ?_
          first | refine T_iincN4 dX4_accepts_162 rfl (by decide) ?_ | refine T_iinc4 dX4_accepts_162 rfl rfl (by decide) ?_
          first | refine T_iincN5 dX4_accepts_165 rfl (by decide) ?_ | refine T_iinc5 dX4_accepts_165 rfl rfl (by decide) ?_
          refine T_goto 128 dX4_accepts_168 (by decide) ?_
          first | (rw [mAc, if_pos (nIe h142 (by omega) (by omega))] at hnx; exact hnx) | (rw [mAc, if_neg (nIn h142), if_neg (Int32.not_lt.mpr h152)] at hnx; exact hnx) | (rw [mAc, if_neg (nIn h142), if_pos (Int32.not_le.mp h152)] at hnx; exact hnx)
  refine T_aload_n dX4_accepts_0 rfl rfl ?_
  refine T_iload_n dX4_accepts_1 rfl rfl ?_
  refine T_vi (Rc_of (hv4 0 (by decide)) rfl rfl) (k_X4_isCopy hv4) ml_X4_118 im_yX4_isCopy se_RX4_yX4_isCopy ini_RX4 co_yX4_isCopy rfl de_X4_isCopy (by decide) (by decide) rfl (Nat.le_of_ble_eq_true rfl) dX4_accepts_2 ?_
  refine T_if_eq 18 dX4_accepts_5 (by decide) (fun h5 => ?_) (fun h5 => ?_)
  · refine T_iconst (v := -1) dX4_accepts_18 rfl ?_
    refine T_iret rfl dX4_accepts_19 ?_
    refine hB (fun q => ?_)
    first | exact (b01_0 h5) q.1 | exact (b01_0 h15) q.2
  · refine T_iload_n dX4_accepts_8 rfl rfl ?_
    refine T_iconst (v := nI 1) dX4_accepts_9 rfl ?_
    refine T_bipush (v := nI 9) dX4_accepts_10 (by decide) ?_
    refine T_si k_X4_in ml_X4_63 sm_yX4_in ini_RX4 co_yX4_in de_X4_in (by decide) (by decide) rfl (Nat.le_of_ble_eq_true rfl) dX4_accepts_12 ?_
    refine T_if_ne 20 dX4_accepts_15 (by decide) (fun h15 => ?_) (fun h15 => ?_)
    · refine T_aload_n dX4_accepts_20 rfl rfl ?_
      refine T_g4F hv4 0 (by decide) fl_X4_7 rfl dX4_accepts_21 ?_
      refine T_bipush (v := nI 14) dX4_accepts_24 (by decide) ?_
      refine T_ialM hv4 _ (by omega) rfl dX4_accepts_26 ?_
      refine T_bipush (v := nI 24) dX4_accepts_27 (by decide) ?_
      refine T_icmp_ne 35 dX4_accepts_29 (by decide) (fun h29 => ?_) (fun h29 => ?_)
      · have hM : mW m < 24 := Classical.byContradiction fun z => h29 (by rw [hw.2.2.2.1, show mW m = 24 by omega])
        obtain ⟨i, hi, hci⟩ := icM_i hw (b01_1 h5)
        rw [hci]
        refine T_aload_n dX4_accepts_35 rfl rfl ?_
        refine T_vv (Rc_of (hv4 0 (by decide)) rfl rfl) (k_X4_save hv4 hn hn8) ml_X4_115 im_yX4_save se_RX4_yX4_save ini_RX4 co_yX4_save rfl de_X4_save (by decide) (by decide) rfl (Nat.le_of_ble_eq_true rfl) dX4_accepts_36 ?_
        refine T_aload_n dX4_accepts_39 rfl rfl ?_
        refine T_g4F hv4 0 (by decide) fl_X4_7 rfl dX4_accepts_40 ?_
        refine T_bipush (v := nI 14) dX4_accepts_43 (by decide) ?_
        refine T_ialM hv4 _ (by omega) rfl dX4_accepts_45 ?_
        rw [hw.2.2.2.1]
        refine T_istore3 dX4_accepts_46 rfl (by decide) ?_
        refine T_aload_n dX4_accepts_47 rfl rfl ?_
        refine T_g4F hv4 0 (by decide) fl_X4_7 rfl dX4_accepts_48 ?_
        refine T_bipush (v := nI 15) dX4_accepts_51 (by decide) ?_
        refine T_iconst (v := nI 3) dX4_accepts_53 rfl ?_
        refine T_iload_n dX4_accepts_54 rfl rfl ?_
        first | refine T_imulN dX4_accepts_55 ?_ | refine T_imul dX4_accepts_55 ?_
        first | refine T_iaddN dX4_accepts_56 ?_ | refine T_iadd dX4_accepts_56 ?_
        refine T_iload_n dX4_accepts_57 rfl rfl ?_
        refine T_iasM hv4 _ (by omega) rfl dX4_accepts_58 ?_
        refine T_aload_n dX4_accepts_59 rfl rfl ?_
        refine T_g4F hv4 0 (by decide) fl_X4_7 rfl dX4_accepts_60 ?_
        refine T_bipush (v := nI 15) dX4_accepts_63 (by decide) ?_
        refine T_iconst (v := nI 3) dX4_accepts_65 rfl ?_
        refine T_iload_n dX4_accepts_66 rfl rfl ?_
        first | refine T_imulN dX4_accepts_67 ?_ | refine T_imul dX4_accepts_67 ?_
        first | refine T_iaddN dX4_accepts_68 ?_ | refine T_iadd dX4_accepts_68 ?_
        refine T_iconst (v := nI 1) dX4_accepts_69 rfl ?_
        first | refine T_iaddN dX4_accepts_70 ?_ | refine T_iadd dX4_accepts_70 ?_
        refine T_iload_n dX4_accepts_71 rfl rfl ?_
        refine T_iasM hv4 _ (by omega) rfl dX4_accepts_72 ?_
        refine T_aload_n dX4_accepts_73 rfl rfl ?_
        refine T_g4F hv4 0 (by decide) fl_X4_7 rfl dX4_accepts_74 ?_
        refine T_bipush (v := nI 15) dX4_accepts_77 (by decide) ?_
        refine T_iconst (v := nI 3) dX4_accepts_79 rfl ?_
        refine T_iload_n dX4_accepts_80 rfl rfl ?_
        first | refine T_imulN dX4_accepts_81 ?_ | refine T_imul dX4_accepts_81 ?_
        first | refine T_iaddN dX4_accepts_82 ?_ | refine T_iadd dX4_accepts_82 ?_
        refine T_iconst (v := nI 2) dX4_accepts_83 rfl ?_
        first | refine T_iaddN dX4_accepts_84 ?_ | refine T_iadd dX4_accepts_84 ?_
        refine T_aload_n dX4_accepts_85 rfl rfl ?_
        refine T_g4F hv4 0 (by decide) fl_X4_7 rfl dX4_accepts_86 ?_
        refine T_iconst (v := nI 1) dX4_accepts_89 rfl ?_
        refine T_ialM hv4 _ (by omega) rfl dX4_accepts_90 ?_
        refine T_iasM hv4 _ (by omega) rfl dX4_accepts_91 ?_
        refine T_aload_n dX4_accepts_92 rfl rfl ?_
        refine T_g4F hv4 0 (by decide) fl_X4_7 rfl dX4_accepts_93 ?_
        refine T_bipush (v := nI 14) dX4_accepts_96 (by decide) ?_
        refine T_dup2 dX4_accepts_98 rfl rfl ?_
        refine T_ialM hv4 _ (by omega) rfl dX4_accepts_99 ?_
        refine T_iconst (v := nI 1) dX4_accepts_100 rfl ?_
        refine T_iadd dX4_accepts_101 ?_
        refine T_iasM hv4 _ (by omega) rfl dX4_accepts_102 ?_
        refine T_aload_n dX4_accepts_103 rfl rfl ?_
        refine T_g4F hv4 0 (by decide) fl_X4_7 rfl dX4_accepts_104 ?_
        refine T_bipush (v := nI 87) dX4_accepts_107 (by decide) ?_
        refine T_iload_n dX4_accepts_109 rfl rfl ?_
        first | refine T_iaddN dX4_accepts_110 ?_ | refine T_iadd dX4_accepts_110 ?_
        refine T_dup2 dX4_accepts_111 rfl rfl ?_
        refine T_ialM hv4 _ (by omega) rfl dX4_accepts_112 ?_
        refine T_iconst (v := nI 1) dX4_accepts_113 rfl ?_
        refine T_iload_n dX4_accepts_114 rfl rfl ?_
        refine T_ishl dX4_accepts_115 ?_
        refine T_ior dX4_accepts_116 ?_
        refine T_iasM hv4 _ (by omega) rfl dX4_accepts_117 ?_
        refine T_aload_n dX4_accepts_118 rfl rfl ?_
        refine T_vv (Rc_of (hv4 0 (by decide)) rfl rfl) (k_X4_keepZeroFast hv4) ml_X4_145 im_yX4_keepZeroFast se_RX4_yX4_keepZeroFast ini_RX4 co_yX4_keepZeroFast rfl de_X4_keepZeroFast (by decide) (by decide) rfl (Nat.le_of_ble_eq_true rfl) dX4_accepts_119 ?_
        refine T_iconst (v := nI 0) dX4_accepts_122 rfl ?_
        refine T_istore4 dX4_accepts_123 rfl (by decide) ?_
        refine T_iconst (v := nI 0) dX4_accepts_125 rfl ?_
        refine T_istore5 dX4_accepts_126 rfl (by decide) ?_
        exact T_Q (fun r u q => by obtain ⟨rfl, rfl⟩ := q; exact hO i hi hci (b01_1 h15) hM) (h128 i hi hM (mC m) 0 (by omega))
      · refine T_bipush (v := -3) dX4_accepts_32 (by decide) ?_
        refine T_iret rfl dX4_accepts_34 ?_
        exact hF ⟨b01_1 h5, b01_1 h15⟩ (fun z => by rw [hw.2.2.2.1] at h29; have := nIe h29 (by omega) (by decide); omega)
    · refine T_iconst (v := -1) dX4_accepts_18 rfl ?_
      refine T_iret rfl dX4_accepts_19 ?_
      refine hB (fun q => ?_)
      first | exact (b01_0 h5) q.1 | exact (b01_0 h15) q.2
set_option maxHeartbeats 4000000 in
set_option maxRecDepth 100000 in
theorem k_X4_passes {X : Cx} {l : Launch} {σ0 : Hp} {h : Rg} {m : Nat → Int32} {Q : Option Value → Hp → Prop} {n : Nat} {x : Int32} (hv4 : Lv X 4 0) (hn : h 0 4 = nI n) (hn8 : n ≤ 8) (hB : ¬ (inB x (nI 1) (nI 99)) → Q (some (.int (-1))) (setR σ0 4 0 (up1 h 1 m))) (hS : (inB x (nI 1) (nI 99)) → ¬ m 1 + x ≤ nI 999 → Q (some (.int (-2))) (setR σ0 4 0 (up1 h 1 m))) (hO : (inB x (nI 1) (nI 99)) → m 1 + x ≤ nI 999 → Q (some (.int (m 1 + x))) (setR σ0 4 0 (up1 (svR h m n) 1 (upd m 1 (m 1 + x))))) : Con X l yX4_passes cX4_passes 2 (some .int) 2 [.ref (adr X 4 0 0), .int x] (setR σ0 4 0 (up1 h 1 m)) Q := by
  refine Con_of [some (.ref (adr X 4 0 0)), some (.int x)] (by decide) rfl (Nat.le_of_ble_eq_true rfl) ?_
  refine T_iload_n dX4_passes_0 rfl rfl ?_
  refine T_iconst (v := nI 1) dX4_passes_1 rfl ?_
  refine T_bipush (v := nI 99) dX4_passes_2 (by decide) ?_
  refine T_si k_X4_in ml_X4_63 sm_yX4_in ini_RX4 co_yX4_in de_X4_in (by decide) (by decide) rfl (Nat.le_of_ble_eq_true rfl) dX4_passes_4 ?_
  refine T_if_ne 12 dX4_passes_7 (by decide) (fun h7 => ?_) (fun h7 => ?_)
  · refine T_aload_n dX4_passes_12 rfl rfl ?_
    refine T_g4F hv4 0 (by decide) fl_X4_7 rfl dX4_passes_13 ?_
    refine T_iconst (v := nI 1) dX4_passes_16 rfl ?_
    refine T_ialM hv4 _ (by omega) rfl dX4_passes_17 ?_
    refine T_iload_n dX4_passes_18 rfl rfl ?_
    refine T_iadd dX4_passes_19 ?_
    refine T_sipush (v := nI 999) dX4_passes_20 (by decide) ?_
    refine T_icmp_le 29 dX4_passes_23 (by decide) (fun h23 => ?_) (fun h23 => ?_)
    · refine T_aload_n dX4_passes_29 rfl rfl ?_
      refine T_vv (Rc_of (hv4 0 (by decide)) rfl rfl) (k_X4_save hv4 hn hn8) ml_X4_115 im_yX4_save se_RX4_yX4_save ini_RX4 co_yX4_save rfl de_X4_save (by decide) (by decide) rfl (Nat.le_of_ble_eq_true rfl) dX4_passes_30 ?_
      refine T_aload_n dX4_passes_33 rfl rfl ?_
      refine T_g4F hv4 0 (by decide) fl_X4_7 rfl dX4_passes_34 ?_
      refine T_iconst (v := nI 1) dX4_passes_37 rfl ?_
      refine T_dup2 dX4_passes_38 rfl rfl ?_
      refine T_ialM hv4 _ (by omega) rfl dX4_passes_39 ?_
      refine T_iload_n dX4_passes_40 rfl rfl ?_
      refine T_iadd dX4_passes_41 ?_
      refine T_iasM hv4 _ (by omega) rfl dX4_passes_42 ?_
      refine T_aload_n dX4_passes_43 rfl rfl ?_
      refine T_g4F hv4 0 (by decide) fl_X4_7 rfl dX4_passes_44 ?_
      refine T_iconst (v := nI 1) dX4_passes_47 rfl ?_
      refine T_ialM hv4 _ (by omega) rfl dX4_passes_48 ?_
      refine T_iret rfl dX4_passes_49 ?_
      exact hO (b01_1 h7) h23
    · refine T_bipush (v := -2) dX4_passes_26 (by decide) ?_
      refine T_iret rfl dX4_passes_28 ?_
      exact hS (b01_1 h7) h23
  · refine T_iconst (v := -1) dX4_passes_10 rfl ?_
    refine T_iret rfl dX4_passes_11 ?_
    exact hB (b01_0 h7)
set_option maxHeartbeats 4000000 in
set_option maxRecDepth 100000 in
theorem k_X4_pulls {X : Cx} {l : Launch} {σ0 : Hp} {h : Rg} {m : Nat → Int32} {Q : Option Value → Hp → Prop} {n : Nat} {a c : Int32} (hv4 : Lv X 4 0) (hw : Wm m) (hn : h 0 4 = nI n) (hn8 : n ≤ 8) (hB : ¬ apM m a c → Q (some (.int (-1))) (setR σ0 4 0 (up1 h 1 m))) (hO : ∀ i j, i < mC m → j < mC m → a = nI i → c = nI j → ¬ i = j → Q (some (.int (cbS (mPl m i j (87 + i)) 24 - cbS (m (87 + i)) 24))) (setR σ0 4 0 (up1 (svR h m n) 1 (mPl m i j)))) : Con X l yX4_pulls cX4_pulls 4 (some .int) 3 [.ref (adr X 4 0 0), .int a, .int c] (setR σ0 4 0 (up1 h 1 m)) Q := by
  refine Con_of [some (.ref (adr X 4 0 0)), some (.int a), some (.int c), none] (by decide) rfl (Nat.le_of_ble_eq_true rfl) ?_
  have hW := hw.2.2.2.2
  have hC := hw.2.2.1
  refine T_aload_n dX4_pulls_0 rfl rfl ?_
  refine T_iload_n dX4_pulls_1 rfl rfl ?_
  refine T_iload_n dX4_pulls_2 rfl rfl ?_
  refine T_vi (Rc_of (hv4 0 (by decide)) rfl rfl) (k_X4_arePair hv4) ml_X4_164 im_yX4_arePair se_RX4_yX4_arePair ini_RX4 co_yX4_arePair rfl de_X4_arePair (by decide) (by decide) rfl (Nat.le_of_ble_eq_true rfl) dX4_pulls_3 ?_
  refine T_if_ne 11 dX4_pulls_6 (by decide) (fun h6 => ?_) (fun h6 => ?_)
  · have hp := b01_1 h6
    obtain ⟨i, hi, hai⟩ := icM_i hw hp.1
    obtain ⟨j, hj, hcj⟩ := icM_i hw hp.2.1
    have hij : ¬ i = j := fun e => hp.2.2 (by rw [hai, hcj, e])
    rw [hai, hcj]
    refine T_aload_n dX4_pulls_11 rfl rfl ?_
    refine T_vv (Rc_of (hv4 0 (by decide)) rfl rfl) (k_X4_save hv4 hn hn8) ml_X4_115 im_yX4_save se_RX4_yX4_save ini_RX4 co_yX4_save rfl de_X4_save (by decide) (by decide) rfl (Nat.le_of_ble_eq_true rfl) dX4_pulls_12 ?_
    refine T_aload_n dX4_pulls_15 rfl rfl ?_
    refine T_g4F hv4 0 (by decide) fl_X4_7 rfl dX4_pulls_16 ?_
    refine T_bipush (v := nI 87) dX4_pulls_19 (by decide) ?_
    refine T_iload_n dX4_pulls_21 rfl rfl ?_
    first | refine T_iaddN dX4_pulls_22 ?_ | refine T_iadd dX4_pulls_22 ?_
    refine T_ialM hv4 _ (by omega) rfl dX4_pulls_23 ?_
    refine T_si k_X4_countBits ml_X4_139 sm_yX4_countBits ini_RX4 co_yX4_countBits de_X4_countBits (by decide) (by decide) rfl (Nat.le_of_ble_eq_true rfl) dX4_pulls_24 ?_
    refine T_istore3 dX4_pulls_27 rfl (by decide) ?_
    refine T_aload_n dX4_pulls_28 rfl rfl ?_
    refine T_iload_n dX4_pulls_29 rfl rfl ?_
    refine T_iload_n dX4_pulls_30 rfl rfl ?_
    refine T_vv (Rc_of (hv4 0 (by decide)) rfl rfl) (k_X4_pull hv4 hw (by omega) (by omega)) ml_X4_148 im_yX4_pull se_RX4_yX4_pull ini_RX4 co_yX4_pull rfl de_X4_pull (by decide) (by decide) rfl (Nat.le_of_ble_eq_true rfl) dX4_pulls_31 ?_
    refine T_aload_n dX4_pulls_34 rfl rfl ?_
    refine T_g4F hv4 0 (by decide) fl_X4_7 rfl dX4_pulls_35 ?_
    refine T_bipush (v := nI 87) dX4_pulls_38 (by decide) ?_
    refine T_iload_n dX4_pulls_40 rfl rfl ?_
    first | refine T_iaddN dX4_pulls_41 ?_ | refine T_iadd dX4_pulls_41 ?_
    refine T_ialM hv4 _ (by omega) rfl dX4_pulls_42 ?_
    refine T_si k_X4_countBits ml_X4_139 sm_yX4_countBits ini_RX4 co_yX4_countBits de_X4_countBits (by decide) (by decide) rfl (Nat.le_of_ble_eq_true rfl) dX4_pulls_43 ?_
    refine T_iload_n dX4_pulls_46 rfl rfl ?_
    refine T_isub dX4_pulls_47 ?_
    refine T_iret rfl dX4_pulls_48 ?_
    exact hO i j hi hj hai hcj hij
  · refine T_iconst (v := -1) dX4_pulls_9 rfl ?_
    refine T_iret rfl dX4_pulls_10 ?_
    exact hB (b01_0 h6)
set_option maxHeartbeats 4000000 in
set_option maxRecDepth 100000 in
theorem k_X4_reads {X : Cx} {l : Launch} {σ0 : Hp} {h : Rg} {m : Nat → Int32} {Q : Option Value → Hp → Prop} {n : Nat} {c : Int32} (hv4 : Lv X 4 0) (hw : Wm m) (hn : h 0 4 = nI n) (hn8 : n ≤ 8) (hB : ¬ icM m c → Q (some (.int (-1))) (setR σ0 4 0 (up1 h 1 m))) (hO : ∀ i, i < mC m → c = nI i → Q (some (.int (nI (mRd m i).2))) (setR σ0 4 0 (up1 (svR h m n) 1 (mRd m i).1))) : Con X l yX4_reads cX4_reads 2 (some .int) 3 [.ref (adr X 4 0 0), .int c] (setR σ0 4 0 (up1 h 1 m)) Q := by
  refine Con_of [some (.ref (adr X 4 0 0)), some (.int c)] (by decide) rfl (Nat.le_of_ble_eq_true rfl) ?_
  have hW := hw.2.2.2.2
  have hC := hw.2.2.1
  refine T_aload_n dX4_reads_0 rfl rfl ?_
  refine T_iload_n dX4_reads_1 rfl rfl ?_
  refine T_vi (Rc_of (hv4 0 (by decide)) rfl rfl) (k_X4_isCopy hv4) ml_X4_118 im_yX4_isCopy se_RX4_yX4_isCopy ini_RX4 co_yX4_isCopy rfl de_X4_isCopy (by decide) (by decide) rfl (Nat.le_of_ble_eq_true rfl) dX4_reads_2 ?_
  refine T_if_ne 10 dX4_reads_5 (by decide) (fun h5 => ?_) (fun h5 => ?_)
  · obtain ⟨i, hi, hci⟩ := icM_i hw (b01_1 h5)
    rw [hci]
    refine T_aload_n dX4_reads_10 rfl rfl ?_
    refine T_vv (Rc_of (hv4 0 (by decide)) rfl rfl) (k_X4_save hv4 hn hn8) ml_X4_115 im_yX4_save se_RX4_yX4_save ini_RX4 co_yX4_save rfl de_X4_save (by decide) (by decide) rfl (Nat.le_of_ble_eq_true rfl) dX4_reads_11 ?_
    refine T_aload_n dX4_reads_14 rfl rfl ?_
    refine T_iload_n dX4_reads_15 rfl rfl ?_
    refine T_vi (Rc_of (hv4 0 (by decide)) rfl rfl) (k_X4_readBy hv4 hw (by omega)) ml_X4_155 im_yX4_readBy se_RX4_yX4_readBy ini_RX4 co_yX4_readBy rfl de_X4_readBy (by decide) (by decide) rfl (Nat.le_of_ble_eq_true rfl) dX4_reads_16 ?_
    refine T_iret rfl dX4_reads_19 ?_
    exact hO i hi hci
  · refine T_iconst (v := -1) dX4_reads_8 rfl ?_
    refine T_iret rfl dX4_reads_9 ?_
    exact hB (b01_0 h5)
set_option maxHeartbeats 4000000 in
set_option maxRecDepth 100000 in
theorem k_X4_moves {X : Cx} {l : Launch} {σ0 : Hp} {h : Rg} {m : Nat → Int32} {Q : Option Value → Hp → Prop} {n : Nat} {a c e k : Int32} (hv4 : Lv X 4 0) (hw : Wm m) (hn : h 0 4 = nI n) (hn8 : n ≤ 8) (hB : ¬ (apM m a c ∧ apM m a e ∧ ¬ c = e ∧ inB k (nI 1) (nI 99)) → Q (some (.int (-1))) (setR σ0 4 0 (up1 h 1 m))) (hS : ∀ i j, i < mC m → j < mC m → a = nI i → c = nI j → (apM m a c ∧ apM m a e ∧ ¬ c = e ∧ inB k (nI 1) (nI 99)) → ¬ k ≤ mLf m j i → Q (some (.int (-2))) (setR σ0 4 0 (up1 h 1 m))) (hO : ∀ i j q, i < mC m → j < mC m → q < mC m → a = nI i → c = nI j → e = nI q → (apM m a c ∧ apM m a e ∧ ¬ c = e ∧ inB k (nI 1) (nI 99)) → k ≤ mLf m j i → Q (some (.int (mMv m i j q k (111 + 4 * j + i)))) (setR σ0 4 0 (up1 (svR h m n) 1 (mMv m i j q k)))) : Con X l yX4_moves cX4_moves 5 (some .int) 4 [.ref (adr X 4 0 0), .int a, .int c, .int e, .int k] (setR σ0 4 0 (up1 h 1 m)) Q := by
  refine Con_of [some (.ref (adr X 4 0 0)), some (.int a), some (.int c), some (.int e), some (.int k)] (by decide) rfl (Nat.le_of_ble_eq_true rfl) ?_
  have hW := hw.2.2.2.2
  have hC := hw.2.2.1
  refine T_aload_n dX4_moves_0 rfl rfl ?_
  refine T_iload_n dX4_moves_1 rfl rfl ?_
  refine T_iload_n dX4_moves_2 rfl rfl ?_
  refine T_vi (Rc_of (hv4 0 (by decide)) rfl rfl) (k_X4_arePair hv4) ml_X4_164 im_yX4_arePair se_RX4_yX4_arePair ini_RX4 co_yX4_arePair rfl de_X4_arePair (by decide) (by decide) rfl (Nat.le_of_ble_eq_true rfl) dX4_moves_3 ?_
  refine T_if_eq 34 dX4_moves_6 (by decide) (fun h6 => ?_) (fun h6 => ?_)
  · refine T_iconst (v := -1) dX4_moves_34 rfl ?_
    refine T_iret rfl dX4_moves_35 ?_
    refine hB (fun q => ?_)
    first | exact (b01_0 h6) q.1 | exact (b01_0 h15) q.2.1 | exact q.2.2.1 h20 | exact (b01_0 h31) q.2.2.2
  · refine T_aload_n dX4_moves_9 rfl rfl ?_
    refine T_iload_n dX4_moves_10 rfl rfl ?_
    refine T_iload_n dX4_moves_11 rfl rfl ?_
    refine T_vi (Rc_of (hv4 0 (by decide)) rfl rfl) (k_X4_arePair hv4) ml_X4_164 im_yX4_arePair se_RX4_yX4_arePair ini_RX4 co_yX4_arePair rfl de_X4_arePair (by decide) (by decide) rfl (Nat.le_of_ble_eq_true rfl) dX4_moves_12 ?_
    refine T_if_eq 34 dX4_moves_15 (by decide) (fun h15 => ?_) (fun h15 => ?_)
    · refine T_iconst (v := -1) dX4_moves_34 rfl ?_
      refine T_iret rfl dX4_moves_35 ?_
      refine hB (fun q => ?_)
      first | exact (b01_0 h6) q.1 | exact (b01_0 h15) q.2.1 | exact q.2.2.1 h20 | exact (b01_0 h31) q.2.2.2
    · refine T_iload_n dX4_moves_18 rfl rfl ?_
      refine T_iload_n dX4_moves_19 rfl rfl ?_
      refine T_icmp_eq 34 dX4_moves_20 (by decide) (fun h20 => ?_) (fun h20 => ?_)
      · refine T_iconst (v := -1) dX4_moves_34 rfl ?_
        refine T_iret rfl dX4_moves_35 ?_
        refine hB (fun q => ?_)
        first | exact (b01_0 h6) q.1 | exact (b01_0 h15) q.2.1 | exact q.2.2.1 h20 | exact (b01_0 h31) q.2.2.2
      · refine T_iload dX4_moves_23 rfl ?_
        refine T_iconst (v := nI 1) dX4_moves_25 rfl ?_
        refine T_bipush (v := nI 99) dX4_moves_26 (by decide) ?_
        refine T_si k_X4_in ml_X4_63 sm_yX4_in ini_RX4 co_yX4_in de_X4_in (by decide) (by decide) rfl (Nat.le_of_ble_eq_true rfl) dX4_moves_28 ?_
        refine T_if_ne 36 dX4_moves_31 (by decide) (fun h31 => ?_) (fun h31 => ?_)
        · have hp := b01_1 h6
          have hp2 := b01_1 h15
          have hall : (apM m a c ∧ apM m a e ∧ ¬ c = e ∧ inB k (nI 1) (nI 99)) := ⟨hp, hp2, h20, b01_1 h31⟩
          obtain ⟨i, hi, hai⟩ := icM_i hw hp.1
          obtain ⟨j, hj, hcj⟩ := icM_i hw hp.2.1
          obtain ⟨q, hq, heq⟩ := icM_i hw hp2.2.1
          rw [hai, hcj, heq]
          refine T_aload_n dX4_moves_36 rfl rfl ?_
          refine T_iload_n dX4_moves_37 rfl rfl ?_
          refine T_iload_n dX4_moves_38 rfl rfl ?_
          refine T_vi (Rc_of (hv4 0 (by decide)) rfl rfl) (k_X4_left hv4 hw (by omega) (by omega)) ml_X4_158 im_yX4_left se_RX4_yX4_left ini_RX4 co_yX4_left rfl de_X4_left (by decide) (by decide) rfl (Nat.le_of_ble_eq_true rfl) dX4_moves_39 ?_
          refine T_iload dX4_moves_42 rfl ?_
          refine T_icmp_ge 50 dX4_moves_44 (by decide) (fun h44 => ?_) (fun h44 => ?_)
          · refine T_aload_n dX4_moves_50 rfl rfl ?_
            refine T_vv (Rc_of (hv4 0 (by decide)) rfl rfl) (k_X4_save hv4 hn hn8) ml_X4_115 im_yX4_save se_RX4_yX4_save ini_RX4 co_yX4_save rfl de_X4_save (by decide) (by decide) rfl (Nat.le_of_ble_eq_true rfl) dX4_moves_51 ?_
            refine T_aload_n dX4_moves_54 rfl rfl ?_
            refine T_g4F hv4 0 (by decide) fl_X4_7 rfl dX4_moves_55 ?_
            refine T_aload_n dX4_moves_58 rfl rfl ?_
            refine T_iload_n dX4_moves_59 rfl rfl ?_
            refine T_iload_n dX4_moves_60 rfl rfl ?_
            refine T_vi (Rc_of (hv4 0 (by decide)) rfl rfl) k_X4_budgetCell ml_X4_132 im_yX4_budgetCell se_RX4_yX4_budgetCell ini_RX4 co_yX4_budgetCell rfl de_X4_budgetCell (by decide) (by decide) rfl (Nat.le_of_ble_eq_true rfl) dX4_moves_61 ?_
            refine T_dup2 dX4_moves_64 rfl rfl ?_
            refine T_ialM hv4 _ (by omega) rfl dX4_moves_65 ?_
            refine T_iload dX4_moves_66 rfl ?_
            refine T_isub dX4_moves_68 ?_
            refine T_iasM hv4 _ (by omega) rfl dX4_moves_69 ?_
            refine T_aload_n dX4_moves_70 rfl rfl ?_
            refine T_g4F hv4 0 (by decide) fl_X4_7 rfl dX4_moves_71 ?_
            refine T_aload_n dX4_moves_74 rfl rfl ?_
            refine T_iload_n dX4_moves_75 rfl rfl ?_
            refine T_iload_n dX4_moves_76 rfl rfl ?_
            refine T_vi (Rc_of (hv4 0 (by decide)) rfl rfl) k_X4_budgetCell ml_X4_132 im_yX4_budgetCell se_RX4_yX4_budgetCell ini_RX4 co_yX4_budgetCell rfl de_X4_budgetCell (by decide) (by decide) rfl (Nat.le_of_ble_eq_true rfl) dX4_moves_77 ?_
            refine T_dup2 dX4_moves_80 rfl rfl ?_
            refine T_ialM hv4 _ (by omega) rfl dX4_moves_81 ?_
            refine T_iload dX4_moves_82 rfl ?_
            refine T_iadd dX4_moves_84 ?_
            refine T_iasM hv4 _ (by omega) rfl dX4_moves_85 ?_
            refine T_aload_n dX4_moves_86 rfl rfl ?_
            refine T_g4F hv4 0 (by decide) fl_X4_7 rfl dX4_moves_87 ?_
            refine T_aload_n dX4_moves_90 rfl rfl ?_
            refine T_iload_n dX4_moves_91 rfl rfl ?_
            refine T_iload_n dX4_moves_92 rfl rfl ?_
            refine T_vi (Rc_of (hv4 0 (by decide)) rfl rfl) k_X4_budgetCell ml_X4_132 im_yX4_budgetCell se_RX4_yX4_budgetCell ini_RX4 co_yX4_budgetCell rfl de_X4_budgetCell (by decide) (by decide) rfl (Nat.le_of_ble_eq_true rfl) dX4_moves_93 ?_
            refine T_ialM hv4 _ (by omega) rfl dX4_moves_96 ?_
            refine T_iret rfl dX4_moves_97 ?_
            exact hO i j q hi hj hq hai hcj heq hall h44
          · refine T_bipush (v := -2) dX4_moves_47 (by decide) ?_
            refine T_iret rfl dX4_moves_49 ?_
            exact hS i j hi hj hai hcj hall h44
        · refine T_iconst (v := -1) dX4_moves_34 rfl ?_
          refine T_iret rfl dX4_moves_35 ?_
          refine hB (fun q => ?_)
          first | exact (b01_0 h6) q.1 | exact (b01_0 h15) q.2.1 | exact q.2.2.1 h20 | exact (b01_0 h31) q.2.2.2
set_option maxHeartbeats 4000000 in
set_option maxRecDepth 100000 in
theorem k_X4_evens {X : Cx} {l : Launch} {σ0 : Hp} {h : Rg} {m : Nat → Int32} {Q : Option Value → Hp → Prop} {n : Nat} {c : Int32} (hv4 : Lv X 4 0) (hw : Wm m) (hn : h 0 4 = nI n) (hn8 : n ≤ 8) (hB : ¬ icM m c → Q (some (.int (-1))) (setR σ0 4 0 (up1 h 1 m))) (hO : ∀ i, i < mC m → c = nI i → Q (some (.int (mTo m i (mC m)))) (setR σ0 4 0 (up1 (svR h m n) 1 (mEv m i (mTo m i (mC m)) (mC m))))) : Con X l yX4_evens cX4_evens 6 (some .int) 4 [.ref (adr X 4 0 0), .int c] (setR σ0 4 0 (up1 h 1 m)) Q := by
  refine Con_of [some (.ref (adr X 4 0 0)), some (.int c), none, none, none, none] (by decide) rfl (Nat.le_of_ble_eq_true rfl) ?_
  have hW := hw.2.2.2.2
  have hC := hw.2.2.1
  have hC2 := hw.2.1
  have hz : ¬ nI (mC m - 1) = 0 := nI_ne0 (by omega) (by omega)
  have e2 : m 0 - nI 1 = nI (mC m - 1) := by rw [hw.1, pk_sub (by omega)]
  have h69 : ∀ i, i < mC m → ∀ (e k : Nat), k + e = mC m → T X l yX4_evens cX4_evens 6 (some .int) 4 69 [some (.ref (adr X 4 0 0)), some (.int (nI i)), some (.int (mTo m i (mC m))), some (.int (nI (mC m - 1))), some (.int (((mTo m i (mC m)) - (mTo m i (mC m)) / nI (mC m - 1) * nI (mC m - 1)) - nI (rk i k))), some (.int (nI k))] [] (setR σ0 4 0 (up1 (svR h m n) 1 (mEv m i (mTo m i (mC m)) k))) (Ex (some (.int (mTo m i (mC m)))) (setR σ0 4 0 (up1 (svR h m n) 1 (mEv m i (mTo m i (mC m)) (mC m))))) := by
    intro i hi
    have hwk : ∀ k, Wm (mEv m i (mTo m i (mC m)) k) := fun k => hw.congr (mEv_lo _ _ _ (by decide) k) (mEv_lo _ _ _ (by decide) k)
    have hck : ∀ k, (mEv m i (mTo m i (mC m)) k) 0 = nI (mC m) := fun k => by rw [mEv_lo _ _ _ (by decide)]; exact hw.1
    intro e
    induction e with
    | zero =>
      intro k hk
      have hk : k = mC m := by omega
      subst hk
      refine T_iload dX4_evens_69 rfl ?_
      refine T_aload_n dX4_evens_71 rfl rfl ?_
      refine T_g4F hv4 0 (by decide) fl_X4_7 rfl dX4_evens_72 ?_
      refine T_iconst (v := nI 0) dX4_evens_75 rfl ?_
      refine T_ialM hv4 _ (by omega) rfl dX4_evens_76 ?_
      refine T_icmp_ge 129 dX4_evens_77 (by decide) (fun h77 => ?_) (fun h77 => (absurd (by rw [hck]; exact nI_le (Nat.le_refl _) (by omega)) h77))
      refine T_iload_n dX4_evens_129 rfl rfl ?_
      refine T_iret rfl dX4_evens_130 ?_
      exact ⟨rfl, rfl⟩
    | succ e ih =>
      intro k hk
      have hnx := ih (k + 1) (by omega)
      have hk : k < mC m := by omega
      refine T_iload dX4_evens_69 rfl ?_
      refine T_aload_n dX4_evens_71 rfl rfl ?_
      refine T_g4F hv4 0 (by decide) fl_X4_7 rfl dX4_evens_72 ?_
      refine T_iconst (v := nI 0) dX4_evens_75 rfl ?_
      refine T_ialM hv4 _ (by omega) rfl dX4_evens_76 ?_
      refine T_icmp_ge 129 dX4_evens_77 (by decide) (fun h77 => (absurd ((hck k) ▸ h77) (nI_ge hk (by omega)))) (fun h77 => ?_)
      refine T_iload dX4_evens_80 rfl ?_
      refine T_iload_n dX4_evens_82 rfl rfl ?_
      refine T_icmp_eq 123 dX4_evens_83 (by decide) (fun h83 => ?_) (fun h83 => ?_)
      · first | refine T_iincN5 dX4_evens_123 rfl (by decide) ?_ | refine T_iinc5 dX4_evens_123 rfl rfl (by decide) ?_
        refine T_goto 69 dX4_evens_126 (by decide) ?_
        first | (rw [mEv, if_pos (nIe h83 (by omega) (by omega)), rk_e (nIe h83 (by omega) (by omega))] at hnx; exact hnx) | (rw [mEv, if_neg (nIn h83), rk_s (nIn h83), if_neg (Int32.not_lt.mpr h110)] at hnx; rw [sub_s]; exact hnx) | (rw [mEv, if_neg (nIn h83), rk_s (nIn h83), if_pos (Int32.not_le.mp h110)] at hnx; rw [sub_s]; exact hnx)
      · refine T_aload_n dX4_evens_86 rfl rfl ?_
        refine T_g4F hv4 0 (by decide) fl_X4_7 rfl dX4_evens_87 ?_
        refine T_aload_n dX4_evens_90 rfl rfl ?_
        refine T_iload dX4_evens_91 rfl ?_
        refine T_iload_n dX4_evens_93 rfl rfl ?_
        refine T_vi (Rc_of (hv4 0 (by decide)) rfl rfl) k_X4_budgetCell ml_X4_132 im_yX4_budgetCell se_RX4_yX4_budgetCell ini_RX4 co_yX4_budgetCell rfl de_X4_budgetCell (by decide) (by decide) rfl (Nat.le_of_ble_eq_true rfl) dX4_evens_94 ?_
        refine T_aload_n dX4_evens_97 rfl rfl ?_
        refine T_iload dX4_evens_98 rfl ?_
        refine T_iload_n dX4_evens_100 rfl rfl ?_
        refine T_vi (Rc_of (hv4 0 (by decide)) rfl rfl) (k_X4_owed hv4 (hwk k) (by omega) (by omega)) ml_X4_136 im_yX4_owed se_RX4_yX4_owed ini_RX4 co_yX4_owed rfl de_X4_owed (by decide) (by decide) rfl (Nat.le_of_ble_eq_true rfl) dX4_evens_101 ?_
        refine T_iload_n dX4_evens_104 rfl rfl ?_
        refine T_iload_n dX4_evens_105 rfl rfl ?_
        refine T_idiv dX4_evens_106 hz ?_
        refine T_iadd dX4_evens_107 ?_
        refine T_iload dX4_evens_108 rfl ?_
        refine T_if_le 117 dX4_evens_110 (by decide) (fun h110 => ?_) (fun h110 => ?_)
        · refine T_iconst (v := nI 0) dX4_evens_117 rfl ?_
          refine T_iadd dX4_evens_118 ?_
          refine T_iasM hv4 _ (by omega) rfl dX4_evens_119 ?_
          refine T_iinc4 dX4_evens_120 rfl rfl (by decide) ?_
          first | refine T_iincN5 dX4_evens_123 rfl (by decide) ?_ | refine T_iinc5 dX4_evens_123 rfl rfl (by decide) ?_
          refine T_goto 69 dX4_evens_126 (by decide) ?_
          first | (rw [mEv, if_pos (nIe h83 (by omega) (by omega)), rk_e (nIe h83 (by omega) (by omega))] at hnx; exact hnx) | (rw [mEv, if_neg (nIn h83), rk_s (nIn h83), if_neg (Int32.not_lt.mpr h110)] at hnx; rw [sub_s]; exact hnx) | (rw [mEv, if_neg (nIn h83), rk_s (nIn h83), if_pos (Int32.not_le.mp h110)] at hnx; rw [sub_s]; exact hnx)
        · refine T_iconst (v := nI 1) dX4_evens_113 rfl ?_
          refine T_goto 118 dX4_evens_114 (by decide) ?_
          refine T_iadd dX4_evens_118 ?_
          refine T_iasM hv4 _ (by omega) rfl dX4_evens_119 ?_
          refine T_iinc4 dX4_evens_120 rfl rfl (by decide) ?_
          first | refine T_iincN5 dX4_evens_123 rfl (by decide) ?_ | refine T_iinc5 dX4_evens_123 rfl rfl (by decide) ?_
          refine T_goto 69 dX4_evens_126 (by decide) ?_
          first | (rw [mEv, if_pos (nIe h83 (by omega) (by omega)), rk_e (nIe h83 (by omega) (by omega))] at hnx; exact hnx) | (rw [mEv, if_neg (nIn h83), rk_s (nIn h83), if_neg (Int32.not_lt.mpr h110)] at hnx; rw [sub_s]; exact hnx) | (rw [mEv, if_neg (nIn h83), rk_s (nIn h83), if_pos (Int32.not_le.mp h110)] at hnx; rw [sub_s]; exact hnx)
  have h18 : ∀ i, i < mC m → ∀ (e k : Nat), k + e = mC m → T X l yX4_evens cX4_evens 6 (some .int) 4 18 [some (.ref (adr X 4 0 0)), some (.int (nI i)), some (.int (mTo m i k)), some (.int (nI k)), none, none] [] (setR σ0 4 0 (up1 (svR h m n) 1 m)) (Ex (some (.int (mTo m i (mC m)))) (setR σ0 4 0 (up1 (svR h m n) 1 (mEv m i (mTo m i (mC m)) (mC m))))) := by
    intro i hi e
    induction e with
    | zero =>
      intro k hk
      have hk : k = mC m := by omega
      subst hk
      refine T_iload_n dX4_evens_18 rfl rfl ?_
      refine T_aload_n dX4_evens_19 rfl rfl ?_
      refine T_g4F hv4 0 (by decide) fl_X4_7 rfl dX4_evens_20 ?_
      refine T_iconst (v := nI 0) dX4_evens_23 rfl ?_
      refine T_ialM hv4 _ (by omega) rfl dX4_evens_24 ?_
      refine T_icmp_ge 52 dX4_evens_25 (by decide) (fun h25 => ?_) (fun h25 => (absurd (by rw [hw.1]; exact nI_le (Nat.le_refl _) (by omega)) h25))
      refine T_aload_n dX4_evens_52 rfl rfl ?_
      refine T_g4F hv4 0 (by decide) fl_X4_7 rfl dX4_evens_53 ?_
      refine T_iconst (v := nI 0) dX4_evens_56 rfl ?_
      refine T_ialM hv4 _ (by omega) rfl dX4_evens_57 ?_
      refine T_iconst (v := nI 1) dX4_evens_58 rfl ?_
      refine T_isub dX4_evens_59 ?_
      rw [e2]
      refine T_istore3 dX4_evens_60 rfl (by decide) ?_
      refine T_iload_n dX4_evens_61 rfl rfl ?_
      refine T_iload_n dX4_evens_62 rfl rfl ?_
      refine T_irem dX4_evens_63 hz ?_
      refine T_istore4 dX4_evens_64 rfl (by decide) ?_
      refine T_iconst (v := nI 0) dX4_evens_66 rfl ?_
      refine T_istore5 dX4_evens_67 rfl (by decide) ?_
      have h0 := h69 i hi (mC m) 0 (by omega)
      rw [rk_0, sub_0] at h0
      exact h0
    | succ e ih =>
      intro k hk
      have hnx := ih (k + 1) (by omega)
      have hk : k < mC m := by omega
      refine T_iload_n dX4_evens_18 rfl rfl ?_
      refine T_aload_n dX4_evens_19 rfl rfl ?_
      refine T_g4F hv4 0 (by decide) fl_X4_7 rfl dX4_evens_20 ?_
      refine T_iconst (v := nI 0) dX4_evens_23 rfl ?_
      refine T_ialM hv4 _ (by omega) rfl dX4_evens_24 ?_
      refine T_icmp_ge 52 dX4_evens_25 (by decide) (fun h25 => (absurd (hw.1 ▸ h25) (nI_ge hk (by omega)))) (fun h25 => ?_)
      refine T_iload_n dX4_evens_28 rfl rfl ?_
      refine T_iload_n dX4_evens_29 rfl rfl ?_
      refine T_iload_n dX4_evens_30 rfl rfl ?_
      refine T_icmp_ne 38 dX4_evens_31 (by decide) (fun h31 => ?_) (fun h31 => ?_)
      · refine T_aload_n dX4_evens_38 rfl rfl ?_
        refine T_iload_n dX4_evens_39 rfl rfl ?_
        refine T_iload_n dX4_evens_40 rfl rfl ?_
        refine T_vi (Rc_of (hv4 0 (by decide)) rfl rfl) (k_X4_left hv4 hw (by omega) (by omega)) ml_X4_158 im_yX4_left se_RX4_yX4_left ini_RX4 co_yX4_left rfl de_X4_left (by decide) (by decide) rfl (Nat.le_of_ble_eq_true rfl) dX4_evens_41 ?_
        refine T_iadd dX4_evens_44 ?_
        refine T_istore2 dX4_evens_45 rfl (by decide) ?_
        first | refine T_iincN3 dX4_evens_46 rfl (by decide) ?_ | refine T_iinc3 dX4_evens_46 rfl rfl (by decide) ?_
        refine T_goto 18 dX4_evens_49 (by decide) ?_
        first | (rw [mTo, if_pos (nIe h31 (by omega) (by omega))] at hnx; rw [add_0]; exact hnx) | (rw [mTo, if_neg (nIn h31)] at hnx; exact hnx)
      · refine T_iconst (v := nI 0) dX4_evens_34 rfl ?_
        refine T_goto 44 dX4_evens_35 (by decide) ?_
        refine T_iadd dX4_evens_44 ?_
        refine T_istore2 dX4_evens_45 rfl (by decide) ?_
        first | refine T_iincN3 dX4_evens_46 rfl (by decide) ?_ | refine T_iinc3 dX4_evens_46 rfl rfl (by decide) ?_
        refine T_goto 18 dX4_evens_49 (by decide) ?_
        first | (rw [mTo, if_pos (nIe h31 (by omega) (by omega))] at hnx; rw [add_0]; exact hnx) | (rw [mTo, if_neg (nIn h31)] at hnx; exact hnx)
  refine T_aload_n dX4_evens_0 rfl rfl ?_
  refine T_iload_n dX4_evens_1 rfl rfl ?_
  refine T_vi (Rc_of (hv4 0 (by decide)) rfl rfl) (k_X4_isCopy hv4) ml_X4_118 im_yX4_isCopy se_RX4_yX4_isCopy ini_RX4 co_yX4_isCopy rfl de_X4_isCopy (by decide) (by decide) rfl (Nat.le_of_ble_eq_true rfl) dX4_evens_2 ?_
  refine T_if_ne 10 dX4_evens_5 (by decide) (fun h5 => ?_) (fun h5 => ?_)
  · obtain ⟨i, hi, hci⟩ := icM_i hw (b01_1 h5)
    rw [hci]
    refine T_aload_n dX4_evens_10 rfl rfl ?_
    refine T_vv (Rc_of (hv4 0 (by decide)) rfl rfl) (k_X4_save hv4 hn hn8) ml_X4_115 im_yX4_save se_RX4_yX4_save ini_RX4 co_yX4_save rfl de_X4_save (by decide) (by decide) rfl (Nat.le_of_ble_eq_true rfl) dX4_evens_11 ?_
    refine T_iconst (v := nI 0) dX4_evens_14 rfl ?_
    refine T_istore2 dX4_evens_15 rfl (by decide) ?_
    refine T_iconst (v := nI 0) dX4_evens_16 rfl ?_
    refine T_istore3 dX4_evens_17 rfl (by decide) ?_
    exact T_Q (fun r u q => by obtain ⟨rfl, rfl⟩ := q; exact hO i hi hci) (h18 i hi (mC m) 0 (by omega))
  · refine T_iconst (v := -1) dX4_evens_8 rfl ?_
    refine T_iret rfl dX4_evens_9 ?_
    exact hB (b01_0 h5)
set_option maxHeartbeats 4000000 in
set_option maxRecDepth 100000 in
theorem k_X4_bounds {X : Cx} {l : Launch} {σ0 : Hp} {h : Rg} {m : Nat → Int32} {Q : Option Value → Hp → Prop} {n : Nat} {c x y z : Int32} (hv4 : Lv X 4 0) (hw : Wm m) (hn : h 0 4 = nI n) (hn8 : n ≤ 8) (hB : ¬ (icM m c ∧ inB x (nI 0) (nI 99) ∧ inB y (nI 0) (nI 9) ∧ inB z (nI 0) (nI 99)) → Q (some (.int (-1))) (setR σ0 4 0 (up1 h 1 m))) (hS : ∀ i, i < mC m → c = nI i → (icM m c ∧ inB x (nI 0) (nI 99) ∧ inB y (nI 0) (nI 9) ∧ inB z (nI 0) (nI 99)) → (m (2 + 3 * i) = x ∧ m (2 + 3 * i + 1) = y ∧ m (2 + 3 * i + 2) = z) → Q (some (.int (-2))) (setR σ0 4 0 (up1 h 1 m))) (hO : ∀ i, i < mC m → c = nI i → (icM m c ∧ inB x (nI 0) (nI 99) ∧ inB y (nI 0) (nI 9) ∧ inB z (nI 0) (nI 99)) → ¬ (m (2 + 3 * i) = x ∧ m (2 + 3 * i + 1) = y ∧ m (2 + 3 * i + 2) = z) → Q (some (.int (nI (mBi m i x y z).2))) (setR σ0 4 0 (up1 (svR h m n) 1 (mBi m i x y z).1))) : Con X l yX4_bounds cX4_bounds 9 (some .int) 4 [.ref (adr X 4 0 0), .int c, .int x, .int y, .int z] (setR σ0 4 0 (up1 h 1 m)) Q := by
  refine Con_of [some (.ref (adr X 4 0 0)), some (.int c), some (.int x), some (.int y), some (.int z), none, none, none, none] (by decide) rfl (Nat.le_of_ble_eq_true rfl) ?_
  have hW := hw.2.2.2.2
  have hC := hw.2.2.1
  have h153 : ∀ i, i < mC m → ∀ (b : Int32) (g : Nat → Int32), Wm g → mC g = mC m → mBn g i (mC m) = (mBi m i x y z) → ∀ (e k : Nat), k + e = mC m → T X l yX4_bounds cX4_bounds 9 (some .int) 4 153 [some (.ref (adr X 4 0 0)), some (.int (nI i)), some (.int x), some (.int y), some (.int z), some (.int (nI (2 + 3 * i))), some (.int b), some (.int (nI (mBn g i k).2)), some (.int (nI k))] [] (setR σ0 4 0 (up1 (svR h m n) 1 (mBn g i k).1)) (Ex (some (.int (nI (mBi m i x y z).2))) (setR σ0 4 0 (up1 (svR h m n) 1 (mBi m i x y z).1))) := by
    intro i hi b g hg hgc hgb
    have hwk : ∀ k, Wm (mBn g i k).1 := fun k => hg.congr (mBn_lo _ _ (by decide) k) (mBn_lo _ _ (by decide) k)
    have hck : ∀ k, (mBn g i k).1 0 = nI (mC m) := fun k => by rw [mBn_lo _ _ (by decide), ← hgc]; exact hg.1
    intro e
    induction e with
    | zero =>
      intro k hk
      have hk : k = mC m := by omega
      subst hk
      refine T_iload dX4_bounds_153 rfl ?_
      refine T_aload_n dX4_bounds_155 rfl rfl ?_
      refine T_g4F hv4 0 (by decide) fl_X4_7 rfl dX4_bounds_156 ?_
      refine T_iconst (v := nI 0) dX4_bounds_159 rfl ?_
      refine T_ialM hv4 _ (by omega) rfl dX4_bounds_160 ?_
      refine T_icmp_ge 196 dX4_bounds_161 (by decide) (fun h161 => ?_) (fun h161 => (absurd (by rw [hck]; exact nI_le (Nat.le_refl _) (by omega)) h161))
      refine T_iload dX4_bounds_196 rfl ?_
      refine T_iret rfl dX4_bounds_198 ?_
      exact ⟨by rw [hgb], by rw [hgb]⟩
    | succ e ih =>
      intro k hk
      have hnx := ih (k + 1) (by omega)
      have hk : k < mC m := by omega
      refine T_iload dX4_bounds_153 rfl ?_
      refine T_aload_n dX4_bounds_155 rfl rfl ?_
      refine T_g4F hv4 0 (by decide) fl_X4_7 rfl dX4_bounds_156 ?_
      refine T_iconst (v := nI 0) dX4_bounds_159 rfl ?_
      refine T_ialM hv4 _ (by omega) rfl dX4_bounds_160 ?_
      refine T_icmp_ge 196 dX4_bounds_161 (by decide) (fun h161 => (absurd ((hck k) ▸ h161) (nI_ge hk (by omega)))) (fun h161 => ?_)
      refine T_iload dX4_bounds_164 rfl ?_
      refine T_iload_n dX4_bounds_166 rfl rfl ?_
      refine T_icmp_eq 190 dX4_bounds_167 (by decide) (fun h167 => ?_) (fun h167 => ?_)
      · first | refine T_iincN8 dX4_bounds_190 rfl (by decide) ?_ | refine T_iinc8 dX4_bounds_190 rfl rfl (by decide) ?_
        refine T_goto 153 dX4_bounds_193 (by decide) ?_
        first | (rw [mBn, if_pos (nIe h167 (by omega) (by omega))] at hnx; exact hnx) | (rw [mBn, if_neg (nIn h167), if_neg (Int32.not_lt.mpr h177)] at hnx; exact hnx) | (rw [mBn, if_neg (nIn h167), if_pos (Int32.not_le.mp h177)] at hnx; exact hnx)
      · refine T_aload_n dX4_bounds_170 rfl rfl ?_
        refine T_iload dX4_bounds_171 rfl ?_
        refine T_iload_n dX4_bounds_173 rfl rfl ?_
        refine T_vi (Rc_of (hv4 0 (by decide)) rfl rfl) (k_X4_left hv4 (hwk k) (by omega) (by omega)) ml_X4_158 im_yX4_left se_RX4_yX4_left ini_RX4 co_yX4_left rfl de_X4_left (by decide) (by decide) rfl (Nat.le_of_ble_eq_true rfl) dX4_bounds_174 ?_
        refine T_if_ge 190 dX4_bounds_177 (by decide) (fun h177 => ?_) (fun h177 => ?_)
        · first | refine T_iincN8 dX4_bounds_190 rfl (by decide) ?_ | refine T_iinc8 dX4_bounds_190 rfl rfl (by decide) ?_
          refine T_goto 153 dX4_bounds_193 (by decide) ?_
          first | (rw [mBn, if_pos (nIe h167 (by omega) (by omega))] at hnx; exact hnx) | (rw [mBn, if_neg (nIn h167), if_neg (Int32.not_lt.mpr h177)] at hnx; exact hnx) | (rw [mBn, if_neg (nIn h167), if_pos (Int32.not_le.mp h177)] at hnx; exact hnx)
        · refine T_aload_n dX4_bounds_180 rfl rfl ?_
          refine T_iload dX4_bounds_181 rfl ?_
          refine T_iload_n dX4_bounds_183 rfl rfl ?_
          refine T_vv (Rc_of (hv4 0 (by decide)) rfl rfl) (k_X4_push hv4 (hwk k) (by omega) (by omega)) ml_X4_161 im_yX4_push se_RX4_yX4_push ini_RX4 co_yX4_push rfl de_X4_push (by decide) (by decide) rfl (Nat.le_of_ble_eq_true rfl) dX4_bounds_184 ?_
          first | refine T_iincN7 dX4_bounds_187 rfl (by decide) ?_ | refine T_iinc7 dX4_bounds_187 rfl rfl (by decide) ?_
          first | refine T_iincN8 dX4_bounds_190 rfl (by decide) ?_ | refine T_iinc8 dX4_bounds_190 rfl rfl (by decide) ?_
          refine T_goto 153 dX4_bounds_193 (by decide) ?_
          first | (rw [mBn, if_pos (nIe h167 (by omega) (by omega))] at hnx; exact hnx) | (rw [mBn, if_neg (nIn h167), if_neg (Int32.not_lt.mpr h177)] at hnx; exact hnx) | (rw [mBn, if_neg (nIn h167), if_pos (Int32.not_le.mp h177)] at hnx; exact hnx)
  have h101 : ∀ i, i < mC m → ∀ b : Int32, ((b = nI 1 ∧ m (2 + 3 * i) = x) ∨ (b = nI 0 ∧ ¬ m (2 + 3 * i) = x)) → T X l yX4_bounds cX4_bounds 9 (some .int) 4 101 [some (.ref (adr X 4 0 0)), some (.int (nI i)), some (.int x), some (.int y), some (.int z), some (.int (nI (2 + 3 * i))), some (.int b), none, none] [] (setR σ0 4 0 (up1 h 1 m)) (Ex (some (.int (nI (mBi m i x y z).2))) (setR σ0 4 0 (up1 (svR h m n) 1 (mBi m i x y z).1))) := by
    intro i hi b hb
    have hsw := mSb_W hw (show i < 4 by omega) x y z
    have hs1 : ¬ b = 0 → m (2 + 3 * i) = x := fun z => by rcases hb with q | q
                                                          · exact q.2
                                                          · exact absurd (q.1.trans (by decide)) z
    have hs0 : b = 0 → ¬ m (2 + 3 * i) = x := fun z => by rcases hb with q | q
                                                          · exact absurd (q.1.symm.trans z) (by decide)
                                                          · exact q.2
    refine T_aload_n dX4_bounds_101 rfl rfl ?_
    refine T_vv (Rc_of (hv4 0 (by decide)) rfl rfl) (k_X4_save hv4 hn hn8) ml_X4_115 im_yX4_save se_RX4_yX4_save ini_RX4 co_yX4_save rfl de_X4_save (by decide) (by decide) rfl (Nat.le_of_ble_eq_true rfl) dX4_bounds_102 ?_
    refine T_aload_n dX4_bounds_105 rfl rfl ?_
    refine T_g4F hv4 0 (by decide) fl_X4_7 rfl dX4_bounds_106 ?_
    refine T_iload dX4_bounds_109 rfl ?_
    refine T_iload_n dX4_bounds_111 rfl rfl ?_
    refine T_iasM hv4 _ (by omega) rfl dX4_bounds_112 ?_
    refine T_aload_n dX4_bounds_113 rfl rfl ?_
    refine T_g4F hv4 0 (by decide) fl_X4_7 rfl dX4_bounds_114 ?_
    refine T_iload dX4_bounds_117 rfl ?_
    refine T_iconst (v := nI 1) dX4_bounds_119 rfl ?_
    first | refine T_iaddN dX4_bounds_120 ?_ | refine T_iadd dX4_bounds_120 ?_
    refine T_iload_n dX4_bounds_121 rfl rfl ?_
    refine T_iasM hv4 _ (by omega) rfl dX4_bounds_122 ?_
    refine T_aload_n dX4_bounds_123 rfl rfl ?_
    refine T_g4F hv4 0 (by decide) fl_X4_7 rfl dX4_bounds_124 ?_
    refine T_iload dX4_bounds_127 rfl ?_
    refine T_iconst (v := nI 2) dX4_bounds_129 rfl ?_
    first | refine T_iaddN dX4_bounds_130 ?_ | refine T_iadd dX4_bounds_130 ?_
    refine T_iload dX4_bounds_131 rfl ?_
    refine T_iasM hv4 _ (by omega) rfl dX4_bounds_133 ?_
    refine T_iload dX4_bounds_134 rfl ?_
    refine T_if_ne 147 dX4_bounds_136 (by decide) (fun h136 => ?_) (fun h136 => ?_)
    · try rw [show mC (upd (upd (upd m (2 + 3 * i) x) (2 + 3 * i + 1) y) (2 + 3 * i + 2) z) = mC m from hsw.2]
      refine T_iconst (v := nI 0) dX4_bounds_147 rfl ?_
      refine T_istore7 dX4_bounds_148 rfl (by decide) ?_
      refine T_iconst (v := nI 0) dX4_bounds_150 rfl ?_
      refine T_istore8 dX4_bounds_151 rfl (by decide) ?_
      first | (refine h153 i hi _ (mSb m i x y z) hsw.1 hsw.2 ?_ (mC m) 0 (Nat.zero_add _); rw [mBi, if_pos (hs1 h136)]) | (refine h153 i hi _ (sbS (mSb m i x y z) i (mC m)) (hsw.1.congr (sbS_lo _ _ (by decide) _) (sbS_lo _ _ (by decide) _)) ((mC_congr (sbS_lo _ _ (by decide) _)).trans hsw.2) ?_ (mC m) 0 (Nat.zero_add _); rw [mBi, if_neg (hs0 h136)])
    · refine T_aload_n dX4_bounds_139 rfl rfl ?_
      refine T_g4F hv4 0 (by decide) fl_X4_7 rfl dX4_bounds_140 ?_
      refine T_iload_n dX4_bounds_143 rfl rfl ?_
      refine T_sv (k_X4_setBudgetsFor (hv4 1 (by decide)) (fun _ => rfl) (mSb_W hw (show i < 4 by omega) x y z).1 (by omega)) ml_X4_53 sm_yX4_setBudgetsFor ini_RX4 co_yX4_setBudgetsFor de_X4_setBudgetsFor (by decide) (by decide) rfl (Nat.le_of_ble_eq_true rfl) dX4_bounds_144 ?_
      try rw [show mC (upd (upd (upd m (2 + 3 * i) x) (2 + 3 * i + 1) y) (2 + 3 * i + 2) z) = mC m from hsw.2]
      refine T_iconst (v := nI 0) dX4_bounds_147 rfl ?_
      refine T_istore7 dX4_bounds_148 rfl (by decide) ?_
      refine T_iconst (v := nI 0) dX4_bounds_150 rfl ?_
      refine T_istore8 dX4_bounds_151 rfl (by decide) ?_
      first | (refine h153 i hi _ (mSb m i x y z) hsw.1 hsw.2 ?_ (mC m) 0 (Nat.zero_add _); rw [mBi, if_pos (hs1 h136)]) | (refine h153 i hi _ (sbS (mSb m i x y z) i (mC m)) (hsw.1.congr (sbS_lo _ _ (by decide) _) (sbS_lo _ _ (by decide) _)) ((mC_congr (sbS_lo _ _ (by decide) _)).trans hsw.2) ?_ (mC m) 0 (Nat.zero_add _); rw [mBi, if_neg (hs0 h136)])
  refine T_aload_n dX4_bounds_0 rfl rfl ?_
  refine T_iload_n dX4_bounds_1 rfl rfl ?_
  refine T_vi (Rc_of (hv4 0 (by decide)) rfl rfl) (k_X4_isCopy hv4) ml_X4_118 im_yX4_isCopy se_RX4_yX4_isCopy ini_RX4 co_yX4_isCopy rfl de_X4_isCopy (by decide) (by decide) rfl (Nat.le_of_ble_eq_true rfl) dX4_bounds_2 ?_
  refine T_if_eq 39 dX4_bounds_5 (by decide) (fun h5 => ?_) (fun h5 => ?_)
  · refine T_iconst (v := -1) dX4_bounds_39 rfl ?_
    refine T_iret rfl dX4_bounds_40 ?_
    refine hB (fun q => ?_)
    first | exact (b01_0 h5) q.1 | exact (b01_0 h15) q.2.1 | exact (b01_0 h25) q.2.2.1 | exact (b01_0 h36) q.2.2.2
  · refine T_iload_n dX4_bounds_8 rfl rfl ?_
    refine T_iconst (v := nI 0) dX4_bounds_9 rfl ?_
    refine T_bipush (v := nI 99) dX4_bounds_10 (by decide) ?_
    refine T_si k_X4_in ml_X4_63 sm_yX4_in ini_RX4 co_yX4_in de_X4_in (by decide) (by decide) rfl (Nat.le_of_ble_eq_true rfl) dX4_bounds_12 ?_
    refine T_if_eq 39 dX4_bounds_15 (by decide) (fun h15 => ?_) (fun h15 => ?_)
    · refine T_iconst (v := -1) dX4_bounds_39 rfl ?_
      refine T_iret rfl dX4_bounds_40 ?_
      refine hB (fun q => ?_)
      first | exact (b01_0 h5) q.1 | exact (b01_0 h15) q.2.1 | exact (b01_0 h25) q.2.2.1 | exact (b01_0 h36) q.2.2.2
    · refine T_iload_n dX4_bounds_18 rfl rfl ?_
      refine T_iconst (v := nI 0) dX4_bounds_19 rfl ?_
      refine T_bipush (v := nI 9) dX4_bounds_20 (by decide) ?_
      refine T_si k_X4_in ml_X4_63 sm_yX4_in ini_RX4 co_yX4_in de_X4_in (by decide) (by decide) rfl (Nat.le_of_ble_eq_true rfl) dX4_bounds_22 ?_
      refine T_if_eq 39 dX4_bounds_25 (by decide) (fun h25 => ?_) (fun h25 => ?_)
      · refine T_iconst (v := -1) dX4_bounds_39 rfl ?_
        refine T_iret rfl dX4_bounds_40 ?_
        refine hB (fun q => ?_)
        first | exact (b01_0 h5) q.1 | exact (b01_0 h15) q.2.1 | exact (b01_0 h25) q.2.2.1 | exact (b01_0 h36) q.2.2.2
      · refine T_iload dX4_bounds_28 rfl ?_
        refine T_iconst (v := nI 0) dX4_bounds_30 rfl ?_
        refine T_bipush (v := nI 99) dX4_bounds_31 (by decide) ?_
        refine T_si k_X4_in ml_X4_63 sm_yX4_in ini_RX4 co_yX4_in de_X4_in (by decide) (by decide) rfl (Nat.le_of_ble_eq_true rfl) dX4_bounds_33 ?_
        refine T_if_ne 41 dX4_bounds_36 (by decide) (fun h36 => ?_) (fun h36 => ?_)
        · have hall : (icM m c ∧ inB x (nI 0) (nI 99) ∧ inB y (nI 0) (nI 9) ∧ inB z (nI 0) (nI 99)) := ⟨b01_1 h5, b01_1 h15, b01_1 h25, b01_1 h36⟩
          obtain ⟨i, hi, hci⟩ := icM_i hw (b01_1 h5)
          rw [hci]
          refine T_iconst (v := nI 2) dX4_bounds_41 rfl ?_
          refine T_iconst (v := nI 3) dX4_bounds_42 rfl ?_
          refine T_iload_n dX4_bounds_43 rfl rfl ?_
          first | refine T_imulN dX4_bounds_44 ?_ | refine T_imul dX4_bounds_44 ?_
          first | refine T_iaddN dX4_bounds_45 ?_ | refine T_iadd dX4_bounds_45 ?_
          refine T_istore5 dX4_bounds_46 rfl (by decide) ?_
          refine T_aload_n dX4_bounds_48 rfl rfl ?_
          refine T_g4F hv4 0 (by decide) fl_X4_7 rfl dX4_bounds_49 ?_
          refine T_iload dX4_bounds_52 rfl ?_
          refine T_ialM hv4 _ (by omega) rfl dX4_bounds_54 ?_
          refine T_iload_n dX4_bounds_55 rfl rfl ?_
          refine T_icmp_ne 63 dX4_bounds_56 (by decide) (fun h56 => ?_) (fun h56 => ?_)
          · refine T_iconst (v := nI 0) dX4_bounds_63 rfl ?_
            refine T_istore6 dX4_bounds_64 rfl (by decide) ?_
            refine T_iload dX4_bounds_66 rfl ?_
            refine T_if_eq 101 dX4_bounds_68 (by decide) (fun h68 => ?_) (fun h68 => ?_)
            · first | exact (nope1 h68).elim | (have hns : ¬ (m (2 + 3 * i) = x ∧ m (2 + 3 * i + 1) = y ∧ m (2 + 3 * i + 2) = z) := an3 h95; exact T_Q (fun r u q => by obtain ⟨rfl, rfl⟩ := q; exact hO i hi hci hall hns) (h101 i hi _ (Or.inl ⟨rfl, h56⟩))) | (have hns : ¬ (m (2 + 3 * i) = x ∧ m (2 + 3 * i + 1) = y ∧ m (2 + 3 * i + 2) = z) := an2 h81; exact T_Q (fun r u q => by obtain ⟨rfl, rfl⟩ := q; exact hO i hi hci hall hns) (h101 i hi _ (Or.inl ⟨rfl, h56⟩))) | (have hns : ¬ (m (2 + 3 * i) = x ∧ m (2 + 3 * i + 1) = y ∧ m (2 + 3 * i + 2) = z) := an1 h56; exact T_Q (fun r u q => by obtain ⟨rfl, rfl⟩ := q; exact hO i hi hci hall hns) (h101 i hi _ (Or.inr ⟨rfl, h56⟩)))
            · refine T_aload_n dX4_bounds_71 rfl rfl ?_
              refine T_g4F hv4 0 (by decide) fl_X4_7 rfl dX4_bounds_72 ?_
              refine T_iload dX4_bounds_75 rfl ?_
              refine T_iconst (v := nI 1) dX4_bounds_77 rfl ?_
              first | refine T_iaddN dX4_bounds_78 ?_ | refine T_iadd dX4_bounds_78 ?_
              refine T_ialM hv4 _ (by omega) rfl dX4_bounds_79 ?_
              refine T_iload_n dX4_bounds_80 rfl rfl ?_
              refine T_icmp_ne 101 dX4_bounds_81 (by decide) (fun h81 => ?_) (fun h81 => ?_)
              · first | exact (nope1 h68).elim | (have hns : ¬ (m (2 + 3 * i) = x ∧ m (2 + 3 * i + 1) = y ∧ m (2 + 3 * i + 2) = z) := an3 h95; exact T_Q (fun r u q => by obtain ⟨rfl, rfl⟩ := q; exact hO i hi hci hall hns) (h101 i hi _ (Or.inl ⟨rfl, h56⟩))) | (have hns : ¬ (m (2 + 3 * i) = x ∧ m (2 + 3 * i + 1) = y ∧ m (2 + 3 * i + 2) = z) := an2 h81; exact T_Q (fun r u q => by obtain ⟨rfl, rfl⟩ := q; exact hO i hi hci hall hns) (h101 i hi _ (Or.inl ⟨rfl, h56⟩))) | (have hns : ¬ (m (2 + 3 * i) = x ∧ m (2 + 3 * i + 1) = y ∧ m (2 + 3 * i + 2) = z) := an1 h56; exact T_Q (fun r u q => by obtain ⟨rfl, rfl⟩ := q; exact hO i hi hci hall hns) (h101 i hi _ (Or.inr ⟨rfl, h56⟩)))
              · refine T_aload_n dX4_bounds_84 rfl rfl ?_
                refine T_g4F hv4 0 (by decide) fl_X4_7 rfl dX4_bounds_85 ?_
                refine T_iload dX4_bounds_88 rfl ?_
                refine T_iconst (v := nI 2) dX4_bounds_90 rfl ?_
                first | refine T_iaddN dX4_bounds_91 ?_ | refine T_iadd dX4_bounds_91 ?_
                refine T_ialM hv4 _ (by omega) rfl dX4_bounds_92 ?_
                refine T_iload dX4_bounds_93 rfl ?_
                refine T_icmp_ne 101 dX4_bounds_95 (by decide) (fun h95 => ?_) (fun h95 => ?_)
                · first | exact (nope1 h68).elim | (have hns : ¬ (m (2 + 3 * i) = x ∧ m (2 + 3 * i + 1) = y ∧ m (2 + 3 * i + 2) = z) := an3 h95; exact T_Q (fun r u q => by obtain ⟨rfl, rfl⟩ := q; exact hO i hi hci hall hns) (h101 i hi _ (Or.inl ⟨rfl, h56⟩))) | (have hns : ¬ (m (2 + 3 * i) = x ∧ m (2 + 3 * i + 1) = y ∧ m (2 + 3 * i + 2) = z) := an2 h81; exact T_Q (fun r u q => by obtain ⟨rfl, rfl⟩ := q; exact hO i hi hci hall hns) (h101 i hi _ (Or.inl ⟨rfl, h56⟩))) | (have hns : ¬ (m (2 + 3 * i) = x ∧ m (2 + 3 * i + 1) = y ∧ m (2 + 3 * i + 2) = z) := an1 h56; exact T_Q (fun r u q => by obtain ⟨rfl, rfl⟩ := q; exact hO i hi hci hall hns) (h101 i hi _ (Or.inr ⟨rfl, h56⟩)))
                · refine T_bipush (v := -2) dX4_bounds_98 (by decide) ?_
                  refine T_iret rfl dX4_bounds_100 ?_
                  first | exact (nope0 h68).elim | exact hS i hi hci hall ⟨h56, h81, h95⟩
          · refine T_iconst (v := nI 1) dX4_bounds_59 rfl ?_
            refine T_goto 64 dX4_bounds_60 (by decide) ?_
            refine T_istore6 dX4_bounds_64 rfl (by decide) ?_
            refine T_iload dX4_bounds_66 rfl ?_
            refine T_if_eq 101 dX4_bounds_68 (by decide) (fun h68 => ?_) (fun h68 => ?_)
            · first | exact (nope1 h68).elim | (have hns : ¬ (m (2 + 3 * i) = x ∧ m (2 + 3 * i + 1) = y ∧ m (2 + 3 * i + 2) = z) := an3 h95; exact T_Q (fun r u q => by obtain ⟨rfl, rfl⟩ := q; exact hO i hi hci hall hns) (h101 i hi _ (Or.inl ⟨rfl, h56⟩))) | (have hns : ¬ (m (2 + 3 * i) = x ∧ m (2 + 3 * i + 1) = y ∧ m (2 + 3 * i + 2) = z) := an2 h81; exact T_Q (fun r u q => by obtain ⟨rfl, rfl⟩ := q; exact hO i hi hci hall hns) (h101 i hi _ (Or.inl ⟨rfl, h56⟩))) | (have hns : ¬ (m (2 + 3 * i) = x ∧ m (2 + 3 * i + 1) = y ∧ m (2 + 3 * i + 2) = z) := an1 h56; exact T_Q (fun r u q => by obtain ⟨rfl, rfl⟩ := q; exact hO i hi hci hall hns) (h101 i hi _ (Or.inr ⟨rfl, h56⟩)))
            · refine T_aload_n dX4_bounds_71 rfl rfl ?_
              refine T_g4F hv4 0 (by decide) fl_X4_7 rfl dX4_bounds_72 ?_
              refine T_iload dX4_bounds_75 rfl ?_
              refine T_iconst (v := nI 1) dX4_bounds_77 rfl ?_
              first | refine T_iaddN dX4_bounds_78 ?_ | refine T_iadd dX4_bounds_78 ?_
              refine T_ialM hv4 _ (by omega) rfl dX4_bounds_79 ?_
              refine T_iload_n dX4_bounds_80 rfl rfl ?_
              refine T_icmp_ne 101 dX4_bounds_81 (by decide) (fun h81 => ?_) (fun h81 => ?_)
              · first | exact (nope1 h68).elim | (have hns : ¬ (m (2 + 3 * i) = x ∧ m (2 + 3 * i + 1) = y ∧ m (2 + 3 * i + 2) = z) := an3 h95; exact T_Q (fun r u q => by obtain ⟨rfl, rfl⟩ := q; exact hO i hi hci hall hns) (h101 i hi _ (Or.inl ⟨rfl, h56⟩))) | (have hns : ¬ (m (2 + 3 * i) = x ∧ m (2 + 3 * i + 1) = y ∧ m (2 + 3 * i + 2) = z) := an2 h81; exact T_Q (fun r u q => by obtain ⟨rfl, rfl⟩ := q; exact hO i hi hci hall hns) (h101 i hi _ (Or.inl ⟨rfl, h56⟩))) | (have hns : ¬ (m (2 + 3 * i) = x ∧ m (2 + 3 * i + 1) = y ∧ m (2 + 3 * i + 2) = z) := an1 h56; exact T_Q (fun r u q => by obtain ⟨rfl, rfl⟩ := q; exact hO i hi hci hall hns) (h101 i hi _ (Or.inr ⟨rfl, h56⟩)))
              · refine T_aload_n dX4_bounds_84 rfl rfl ?_
                refine T_g4F hv4 0 (by decide) fl_X4_7 rfl dX4_bounds_85 ?_
                refine T_iload dX4_bounds_88 rfl ?_
                refine T_iconst (v := nI 2) dX4_bounds_90 rfl ?_
                first | refine T_iaddN dX4_bounds_91 ?_ | refine T_iadd dX4_bounds_91 ?_
                refine T_ialM hv4 _ (by omega) rfl dX4_bounds_92 ?_
                refine T_iload dX4_bounds_93 rfl ?_
                refine T_icmp_ne 101 dX4_bounds_95 (by decide) (fun h95 => ?_) (fun h95 => ?_)
                · first | exact (nope1 h68).elim | (have hns : ¬ (m (2 + 3 * i) = x ∧ m (2 + 3 * i + 1) = y ∧ m (2 + 3 * i + 2) = z) := an3 h95; exact T_Q (fun r u q => by obtain ⟨rfl, rfl⟩ := q; exact hO i hi hci hall hns) (h101 i hi _ (Or.inl ⟨rfl, h56⟩))) | (have hns : ¬ (m (2 + 3 * i) = x ∧ m (2 + 3 * i + 1) = y ∧ m (2 + 3 * i + 2) = z) := an2 h81; exact T_Q (fun r u q => by obtain ⟨rfl, rfl⟩ := q; exact hO i hi hci hall hns) (h101 i hi _ (Or.inl ⟨rfl, h56⟩))) | (have hns : ¬ (m (2 + 3 * i) = x ∧ m (2 + 3 * i + 1) = y ∧ m (2 + 3 * i + 2) = z) := an1 h56; exact T_Q (fun r u q => by obtain ⟨rfl, rfl⟩ := q; exact hO i hi hci hall hns) (h101 i hi _ (Or.inr ⟨rfl, h56⟩)))
                · refine T_bipush (v := -2) dX4_bounds_98 (by decide) ?_
                  refine T_iret rfl dX4_bounds_100 ?_
                  first | exact (nope0 h68).elim | exact hS i hi hci hall ⟨h56, h81, h95⟩
        · refine T_iconst (v := -1) dX4_bounds_39 rfl ?_
          refine T_iret rfl dX4_bounds_40 ?_
          refine hB (fun q => ?_)
          first | exact (b01_0 h5) q.1 | exact (b01_0 h15) q.2.1 | exact (b01_0 h25) q.2.2.1 | exact (b01_0 h36) q.2.2.2
set_option maxHeartbeats 4000000 in
set_option maxRecDepth 100000 in
theorem k_X4_undo {X : Cx} {l : Launch} {σ0 : Hp} {h : Rg} {m : Nat → Int32} {Q : Option Value → Hp → Prop} {n : Nat} (hv4 : Lv X 4 0) (hn : h 0 4 = nI n) (hn8 : n ≤ 8) (hS : ¬ 0 < n → Q (some (.int (-2))) (setR σ0 4 0 (up1 h 1 m))) (hO : 0 < n → Q (some (.int (nI (n - 1)))) (setR σ0 4 0 (up1 (up2 h 0 4 (nI (n - 1))) 1 (va_cpy (h 4) m (127 * (n - 1)) 0 127)))) : Con X l yX4_undo cX4_undo 1 (some .int) 1 [.ref (adr X 4 0 0)] (setR σ0 4 0 (up1 h 1 m)) Q := by
  refine Con_of [some (.ref (adr X 4 0 0))] (by decide) rfl (Nat.le_of_ble_eq_true rfl) ?_
  refine T_aload_n dX4_undo_0 rfl rfl ?_
  refine T_g4F (v := .int (nI n)) hv4 4 (by decide) fl_X4_49 (congrArg (fun z => some (Value.int z)) hn) dX4_undo_1 ?_
  refine T_if_ne 10 dX4_undo_4 (by decide) (fun h4 => ?_) (fun h4 => ?_)
  · have h0 : 0 < n := Nat.pos_of_ne_zero (fun e => h4 (congrArg nI e))
    have hj4 : 127 * (n - 1) + 127 ≤ 1016 := by omega
    refine T_aload_n dX4_undo_10 rfl rfl ?_
    refine T_dup dX4_undo_11 rfl ?_
    refine T_g4F (v := .int (nI n)) hv4 4 (by decide) fl_X4_49 (congrArg (fun z => some (Value.int z)) hn) dX4_undo_12 ?_
    refine T_iconst (v := nI 1) dX4_undo_15 rfl ?_
    refine T_isub dX4_undo_16 ?_
    rw [pk_sub (by omega)]
    refine T_p4F hv4 4 (by decide) rfl rfl fl_X4_49 (by decide) rfl dX4_undo_17 ?_
    refine T_aload_n dX4_undo_20 rfl rfl ?_
    refine T_g4F hv4 3 (by decide) fl_X4_19 rfl dX4_undo_21 ?_
    refine T_bipush (v := nI 127) dX4_undo_24 (by decide) ?_
    refine T_aload_n dX4_undo_26 rfl rfl ?_
    refine T_g4F (v := .int (nI (n - 1))) hv4 4 (by decide) fl_X4_49 rfl dX4_undo_27 ?_
    first | refine T_imulN dX4_undo_30 ?_ | refine T_imul dX4_undo_30 ?_
    refine T_aload_n dX4_undo_31 rfl rfl ?_
    refine T_g4F hv4 0 (by decide) fl_X4_7 rfl dX4_undo_32 ?_
    refine T_iconst (v := nI 0) dX4_undo_35 rfl ?_
    refine T_sv (k_X4_copyState (hv4 4 (by decide)) (hv4 1 (by decide)) (fun _ => rfl) (fun _ => rfl) (by decide) hj4 (by decide) (by decide) (by decide)) ml_X4_45 sm_yX4_copyState ini_RX4 co_yX4_copyState de_X4_copyState (by decide) (by decide) rfl (Nat.le_of_ble_eq_true rfl) dX4_undo_36 ?_
    refine T_aload_n dX4_undo_39 rfl rfl ?_
    refine T_g4F (v := .int (nI (n - 1))) hv4 4 (by decide) fl_X4_49 rfl dX4_undo_40 ?_
    refine T_iret rfl dX4_undo_43 ?_
    have hq := hO h0
    rw [show up1 (up2 (up1 h 1 m) 0 4 (nI (n - 1))) 1 (va_cpy (up2 (up1 h 1 m) 0 4 (nI (n - 1)) 4) (up2 (up1 h 1 m) 0 4 (nI (n - 1)) 1) (127 * (n - 1)) 0 127) = up1 (up2 h 0 4 (nI (n - 1))) 1 (va_cpy (h 4) m (127 * (n - 1)) 0 127) from by
      funext k
      by_cases h1 : k = 1
      · subst h1; rfl
      · rw [up1_ne h1, up1_ne h1]
        by_cases h0 : k = 0
        · subst h0; rfl
        · rw [up2_ne h0, up2_ne h0, up1_ne h1]]
    exact hq
  · refine T_bipush (v := -2) dX4_undo_7 (by decide) ?_
    refine T_iret rfl dX4_undo_9 ?_
    exact hS (fun z => absurd h4 (nI_ne0 z (by omega)))
