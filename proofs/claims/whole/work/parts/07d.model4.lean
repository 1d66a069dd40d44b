theorem inB_i {v : Int32} {a b : Nat} (ha : a < 2 ^ 31) (hb : b < 2 ^ 31) (h : inB v (nI a) (nI b)) : ∃ j, a ≤ j ∧ j ≤ b ∧ v = nI j := by
  have e0 : (0 : Int32).toInt = 0 := rfl
  have h1 := h.1
  rw [Int32.lt_iff_toInt_lt, nI_toInt ha] at h1
  have h0 : ¬ v < 0 := fun q => by rw [Int32.lt_iff_toInt_lt, e0] at q; omega
  obtain ⟨j, hj, e⟩ := nI_of2 (nI_toInt hb) h0 (Int32.not_lt.mp h.2)
  rw [e, nI_toInt (by omega)] at h1
  exact ⟨j, by omega, hj, e⟩
theorem inB_of {j a b : Nat} (ha : a ≤ j) (hb : j ≤ b) (h31 : b < 2 ^ 31) : inB (nI j) (nI a) (nI b) := ⟨nI_nlt ha (by omega), nI_nlt hb h31⟩
theorem inW_i {m : Nat → Int32} (hw : Wm m) {v : Int32} (q : inB v (nI 0) (m 14 - nI 1)) : ∃ i, i < mW m ∧ v = nI i := by
  have h4 := hw.2.2.2.2
  have h0 : ¬ v < 0 := q.1
  obtain ⟨j, hj, rfl⟩ := nI_of h0
  have q2 := q.2
  rw [hw.2.2.2.1] at q2
  refine ⟨j, Classical.byContradiction fun z => q2 ?_, rfl⟩
  by_cases hz : mW m = 0
  · rw [hz, Int32.lt_iff_toInt_lt, nI_toInt hj]
    have e : (nI 0 - nI 1).toInt = -1 := by decide
    omega
  · rw [pk_sub (by omega)]
    exact nI_lt (by omega) hj
theorem inW_of {m : Nat → Int32} (hw : Wm m) {i : Nat} (hi : i < mW m) : inB (nI i) (nI 0) (m 14 - nI 1) := by
  have h4 := hw.2.2.2.2
  rw [hw.2.2.2.1, pk_sub (by omega)]
  exact inB_of (by omega) (by omega) (by omega)
def mSp (m : Nat → Int32) (c : Nat) : Nat → Int32
  | 0 => -9
  | n + 1 => if n = c then mSp m c n else if mSp m c n = -9 then mLf m c n else if mSp m c n ≤ mLf m c n then mSp m c n else mLf m c n
def hoS (m : Nat → Int32) (f : Nat) (w : Int32) : Nat → Int32
  | 0 => nI 0
  | n + 1 => hoS m f w n ||| (((m (f + n) >>> (w &&& 31)) &&& nI 1) <<< (nI n &&& 31))
def mCp (m : Nat → Int32) (i : Nat) : Nat → Int32
  | 3 => m (87 + i)
  | 4 => m (91 + i)
  | 5 => wSum (mwt m) (m (87 + i)) (mW m)
  | 6 => wSum (mwt m) (m (87 + i) ^^^ -1) (mW m)
  | 7 => mSl m i
  | 8 => nI (mRd m i).2
  | 9 => mSp m i (mC m)
  | k => m (2 + 3 * i + k)
def mPr (m : Nat → Int32) (i j : Nat) : Nat → Int32
  | 0 => m (95 + 4 * i + j)
  | 1 => m (111 + 4 * j + i)
  | 2 => mOw m j i
  | _ => mLf m j i
def mWr (m : Nat → Int32) (i : Nat) : Nat → Int32
  | 3 => hoS m 87 (nI i) (mC m)
  | 4 => hoS m 91 (nI i) (mC m)
  | k => m (15 + 3 * i + k)
def pfM (m : Nat → Int32) (c : Nat) (w : Int32) : Nat → Nat
  | 0 => 0
  | n + 1 => if n = c then pfM m c w n else if w ≤ mLf m c n then pfM m c w n else pfM m c w n + 1
def prM (m : Nat → Int32) (c : Nat) (w : Int32) : Int32 := if w = 0 then wSum (mwt m) (m (87 + c)) (mW m) else if w = nI 1 then mSl m c else nI (mRd m c).2
def fitM (m fk fv : Nat → Int32) (n c : Nat) : Prop := ∀ i, i < n → prM m c (fk i) = fv i
noncomputable def caM (m fk fv : Nat → Int32) (n : Nat) : Nat → Int32
  | 0 => nI 0
  | c + 1 => @ite _ (fitM m fk fv n c) (Classical.propDecidable _) (caM m fk fv n c ||| (nI 1 <<< (nI c &&& 31))) (caM m fk fv n c)
def giM (m : Nat → Int32) (f w : Int32) (c : Nat) : Nat → Nat
  | 0 => 0
  | e + 1 => if bit f c ∧ bit f e then (if prM m c w = prM m e w then giM m f w c e + 1 else giM m f w c e) else giM m f w c e
def lgM (m : Nat → Int32) (f w : Int32) (N : Nat) : Nat → Int32
  | 0 => nI 0
  | c + 1 => if nI (giM m f w c N) ≤ lgM m f w N c then lgM m f w N c else nI (giM m f w c N)
def akM (M : Nat → Int32) : Nat → Int32 × Int32
  | 0 => (nI 0, M 0)
  | k + 1 => if (akM M k).2 ≤ M (k + 1) then akM M k else (nI (k + 1), M (k + 1))
def fuM (m : Nat → Int32) : Nat → Int32
  | 0 => nI 0
  | c + 1 => if m (87 + c) = (nI 1 <<< (m 14 &&& 31)) - nI 1 then fuM m c ||| (nI 1 <<< (nI c &&& 31)) else fuM m c
noncomputable def cdM (h : Rg) (m : Nat → Int32) (f : Nat) : Int32 := caM m (h 8) (h 9) f (mC m)
noncomputable def gM (h : Rg) (m : Nat → Int32) (f : Nat) (k : Nat) : Int32 := lgM m (cdM h m f) (nI k) (mC m) (mC m)
noncomputable def akA (h : Rg) (m : Nat → Int32) (f : Nat) : Int32 := if nI 2 ≤ cbS (cdM h m f) 24 then (akM (gM h m f) 2).1 else -9
def mCn (h : Rg) (m : Nat → Int32) : Nat → Int32
  | 0 => m 0
  | 1 => m 1
  | 2 => m 14
  | 3 => wSum (mwt m) (-1) (mW m)
  | 4 => fuM m (mC m)
  | 5 => h 0 15
  | 6 => h 0 8
  | _ => h 0 4
section MJ
variable {X : Cx} {l : Launch} {y : MethodName} {cc : ByteArray} {nL : Nat} {ret : Option FieldType} {d pc : Nat} {ls : List (Option Value)} {st rest : List Value} {σ0 : Hp} {h : Rg} {m s : Nat → Int32} {Q : Option Value → Hp → Prop}
theorem T_vs {C : String} {index d2 nL2 b : Nat} {y2 : MethodName} {cc2 : ByteArray} {ret2 : Option FieldType} {As : List Value} {x : Int32} {σ : Hp} (hrec : Rc X σ b C) (hC : Con X l y2 cc2 nL2 ret2 d2 (.ref b :: As) σ (ExS x σ0 h m)) (h1 : Cond.methodLink y.cls index y2 ∈ tb) (h2 : Cond.instanceMethod y2 ∈ tb) (h3 : Cond.selects C y2 y2 ∈ tb) (h4 : Cond.initialized C ∈ tb) (h5 : Cond.code y2 cc2 nL2 ret2 ∈ tb) (hyC : y2.cls = C)
    (hde : y2.cls ≠ "java/lang/invoke/MethodHandle" ∧ y2.cls ≠ "java/lang/invoke/VarHandle" ∧ (parseMethodDescriptor y2.desc).map (fun d => d.parameters.length) = some As.length) (hd2 : d2 + 1 ≤ d) (hn2 : nL2 ≤ 17) (hst : st = As.reverse ++ .ref b :: rest) (hW : (rest.map fun v => v.category).sum ≤ 8) (hdg : decode cc pc = .ok (.invokevirtual index, 3))
    (k : ∀ s, T X l y cc nL ret d (pc + 3) ls (.int x :: rest) (setR σ0 4 0 (up1 (up1 h 3 s) 1 m)) Q) : T X l y cc nL ret d pc ls st σ Q :=
  T_callV hrec hC h1 h2 h3 h4 h5 hyC hde hd2 hn2 hst hW hdg (by rintro _ _ ⟨rfl, s, rfl⟩; exact k s)
theorem T_toS (k : ∀ s, T X l y cc nL ret d pc ls st (setR σ0 4 0 (up1 (up1 h 3 s) 1 m)) Q) : T X l y cc nL ret d pc ls st (setR σ0 4 0 (up1 h 1 m)) Q := by
  have h0 := k (h 3)
  rw [up1_id] at h0
  exact h0
theorem con_s3 {As : List Value} {x : Int32} (hc : Con X l y cc nL ret d As (setR σ0 4 0 (up1 (up1 h 3 s) 1 m)) (ExS x σ0 (up1 h 3 s) m)) : Con X l y cc nL ret d As (setR σ0 4 0 (up1 (up1 h 3 s) 1 m)) (ExS x σ0 h m) := by
  have e : ExS x σ0 (up1 h 3 s) m = ExS x σ0 h m := by
    funext r u
    unfold ExS
    simp only [up1_up1]
  rw [← e]
  exact hc
end MJ

set_option maxHeartbeats 4000000 in
set_option maxRecDepth 100000 in
theorem k_X4_spare {X : Cx} {l : Launch} {σ0 : Hp} {h : Rg} {m : Nat → Int32} {c : Nat} (hv4 : Lv X 4 0) (hw : Wm m) (hc : c < 4) : Con X l yX4_spare cX4_spare 5 (some .int) 4 [.ref (adr X 4 0 0), .int (nI c)] (setR σ0 4 0 (up1 h 1 m)) (Ex (some (.int (mSp m c (mC m)))) (setR σ0 4 0 (up1 h 1 m))) := by
  refine Con_of [some (.ref (adr X 4 0 0)), some (.int (nI c)), none, none, none] (by decide) rfl (Nat.le_of_ble_eq_true rfl) ?_
  have hW := hw.2.2.2.2
  have hC := hw.2.2.1
  have hlp : ∀ (n k : Nat), k + n = mC m → ∀ v4 : Option Value, T X l yX4_spare cX4_spare 5 (some .int) 4 5 [some (.ref (adr X 4 0 0)), some (.int (nI c)), some (.int (mSp m c k)), some (.int (nI k)), v4] [] (setR σ0 4 0 (up1 h 1 m)) (Ex (some (.int (mSp m c (mC m)))) (setR σ0 4 0 (up1 h 1 m))) := by
    intro n
    induction n with
    | zero =>
      intro k hk v4
      have hk : k = mC m := by omega
      subst hk
      refine T_iload_n dX4_spare_5 rfl rfl ?_
      refine T_aload_n dX4_spare_6 rfl rfl ?_
      refine T_g4F hv4 0 (by decide) fl_X4_7 rfl dX4_spare_7 ?_
      refine T_iconst (v := nI 0) dX4_spare_10 rfl ?_
      refine T_ialM hv4 _ (by omega) rfl dX4_spare_11 ?_
      refine T_icmp_ge 63 dX4_spare_12 (by decide) (fun h12 => ?_) (fun h12 => (absurd (by rw [hw.1]; exact nI_le (Nat.le_refl _) (by omega)) h12))
      refine T_iload_n dX4_spare_63 rfl rfl ?_
      refine T_iret rfl dX4_spare_64 ?_
      exact ⟨rfl, rfl⟩
    | succ n ih =>
      intro k hk v4
      have hnx := ih (k + 1) (by omega)
      have hk : k < mC m := by omega
      refine T_iload_n dX4_spare_5 rfl rfl ?_
      refine T_aload_n dX4_spare_6 rfl rfl ?_
      refine T_g4F hv4 0 (by decide) fl_X4_7 rfl dX4_spare_7 ?_
      refine T_iconst (v := nI 0) dX4_spare_10 rfl ?_
      refine T_ialM hv4 _ (by omega) rfl dX4_spare_11 ?_
      refine T_icmp_ge 63 dX4_spare_12 (by decide) (fun h12 => (absurd (hw.1 ▸ h12) (nI_ge hk (by omega)))) (fun h12 => ?_)
      refine T_iload_n dX4_spare_15 rfl rfl ?_
      refine T_iload_n dX4_spare_16 rfl rfl ?_
      refine T_icmp_ne 25 dX4_spare_17 (by decide) (fun h17 => ?_) (fun h17 => ?_)
      · refine T_aload_n dX4_spare_25 rfl rfl ?_
        refine T_iload_n dX4_spare_26 rfl rfl ?_
        refine T_iload_n dX4_spare_27 rfl rfl ?_
        refine T_vi (Rc_of (hv4 0 (by decide)) rfl rfl) (k_X4_left hv4 hw (by omega) (by omega)) ml_X4_158 im_yX4_left se_RX4_yX4_left ini_RX4 co_yX4_left rfl de_X4_left (by decide) (by decide) rfl (Nat.le_of_ble_eq_true rfl) dX4_spare_28 ?_
        refine T_istore4 dX4_spare_31 rfl (by decide) ?_
        refine T_iload_n dX4_spare_33 rfl rfl ?_
        refine T_iload_n dX4_spare_34 rfl rfl ?_
        refine T_icmp_eq 55 dX4_spare_35 (by decide) (fun h35 => ?_) (fun h35 => ?_)
        · refine T_iload_n dX4_spare_55 rfl rfl ?_
          refine T_istore2 dX4_spare_56 rfl (by decide) ?_
          first | refine T_iincN3 dX4_spare_57 rfl (by decide) ?_ | refine T_iinc3 dX4_spare_57 rfl rfl (by decide) ?_
          refine T_goto 5 dX4_spare_60 (by decide) ?_
          first | exact absurd h35 h17 | exact absurd h17 h35 | (rw [mSp, if_pos (nIe h17 (by omega) (by omega))] at hnx; exact hnx _) | (rw [mSp, if_neg (nIn h17), if_pos h41] at hnx; exact hnx _) | (rw [mSp, if_neg (nIn h17), if_neg h41, if_pos h47] at hnx; exact hnx _) | (rw [mSp, if_neg (nIn h17), if_neg h41, if_neg h47] at hnx; exact hnx _)
        · refine T_iload_n dX4_spare_38 rfl rfl ?_
          refine T_bipush (v := -9) dX4_spare_39 (by decide) ?_
          refine T_icmp_eq 50 dX4_spare_41 (by decide) (fun h41 => ?_) (fun h41 => ?_)
          · refine T_iload dX4_spare_50 rfl ?_
            refine T_goto 56 dX4_spare_52 (by decide) ?_
            refine T_istore2 dX4_spare_56 rfl (by decide) ?_
            first | refine T_iincN3 dX4_spare_57 rfl (by decide) ?_ | refine T_iinc3 dX4_spare_57 rfl rfl (by decide) ?_
            refine T_goto 5 dX4_spare_60 (by decide) ?_
            first | exact absurd h35 h17 | exact absurd h17 h35 | (rw [mSp, if_pos (nIe h17 (by omega) (by omega))] at hnx; exact hnx _) | (rw [mSp, if_neg (nIn h17), if_pos h41] at hnx; exact hnx _) | (rw [mSp, if_neg (nIn h17), if_neg h41, if_pos h47] at hnx; exact hnx _) | (rw [mSp, if_neg (nIn h17), if_neg h41, if_neg h47] at hnx; exact hnx _)
          · refine T_iload dX4_spare_44 rfl ?_
            refine T_iload_n dX4_spare_46 rfl rfl ?_
            refine T_icmp_ge 55 dX4_spare_47 (by decide) (fun h47 => ?_) (fun h47 => ?_)
            · refine T_iload_n dX4_spare_55 rfl rfl ?_
              refine T_istore2 dX4_spare_56 rfl (by decide) ?_
              first | refine T_iincN3 dX4_spare_57 rfl (by decide) ?_ | refine T_iinc3 dX4_spare_57 rfl rfl (by decide) ?_
              refine T_goto 5 dX4_spare_60 (by decide) ?_
              first | exact absurd h35 h17 | exact absurd h17 h35 | (rw [mSp, if_pos (nIe h17 (by omega) (by omega))] at hnx; exact hnx _) | (rw [mSp, if_neg (nIn h17), if_pos h41] at hnx; exact hnx _) | (rw [mSp, if_neg (nIn h17), if_neg h41, if_pos h47] at hnx; exact hnx _) | (rw [mSp, if_neg (nIn h17), if_neg h41, if_neg h47] at hnx; exact hnx _)
            · refine T_iload dX4_spare_50 rfl ?_
              refine T_goto 56 dX4_spare_52 (by decide) ?_
              refine T_istore2 dX4_spare_56 rfl (by decide) ?_
              first | refine T_iincN3 dX4_spare_57 rfl (by decide) ?_ | refine T_iinc3 dX4_spare_57 rfl rfl (by decide) ?_
              refine T_goto 5 dX4_spare_60 (by decide) ?_
              first | exact absurd h35 h17 | exact absurd h17 h35 | (rw [mSp, if_pos (nIe h17 (by omega) (by omega))] at hnx; exact hnx _) | (rw [mSp, if_neg (nIn h17), if_pos h41] at hnx; exact hnx _) | (rw [mSp, if_neg (nIn h17), if_neg h41, if_pos h47] at hnx; exact hnx _) | (rw [mSp, if_neg (nIn h17), if_neg h41, if_neg h47] at hnx; exact hnx _)
      · refine T_bipush (v := -9) dX4_spare_20 (by decide) ?_
        refine T_goto 31 dX4_spare_22 (by decide) ?_
        refine T_istore4 dX4_spare_31 rfl (by decide) ?_
        refine T_iload_n dX4_spare_33 rfl rfl ?_
        refine T_iload_n dX4_spare_34 rfl rfl ?_
        refine T_icmp_eq 55 dX4_spare_35 (by decide) (fun h35 => ?_) (fun h35 => ?_)
        · refine T_iload_n dX4_spare_55 rfl rfl ?_
          refine T_istore2 dX4_spare_56 rfl (by decide) ?_
          first | refine T_iincN3 dX4_spare_57 rfl (by decide) ?_ | refine T_iinc3 dX4_spare_57 rfl rfl (by decide) ?_
          refine T_goto 5 dX4_spare_60 (by decide) ?_
          first | exact absurd h35 h17 | exact absurd h17 h35 | (rw [mSp, if_pos (nIe h17 (by omega) (by omega))] at hnx; exact hnx _) | (rw [mSp, if_neg (nIn h17), if_pos h41] at hnx; exact hnx _) | (rw [mSp, if_neg (nIn h17), if_neg h41, if_pos h47] at hnx; exact hnx _) | (rw [mSp, if_neg (nIn h17), if_neg h41, if_neg h47] at hnx; exact hnx _)
        · refine T_iload_n dX4_spare_38 rfl rfl ?_
          refine T_bipush (v := -9) dX4_spare_39 (by decide) ?_
          refine T_icmp_eq 50 dX4_spare_41 (by decide) (fun h41 => ?_) (fun h41 => ?_)
          · refine T_iload dX4_spare_50 rfl ?_
            refine T_goto 56 dX4_spare_52 (by decide) ?_
            refine T_istore2 dX4_spare_56 rfl (by decide) ?_
            first | refine T_iincN3 dX4_spare_57 rfl (by decide) ?_ | refine T_iinc3 dX4_spare_57 rfl rfl (by decide) ?_
            refine T_goto 5 dX4_spare_60 (by decide) ?_
            first | exact absurd h35 h17 | exact absurd h17 h35 | (rw [mSp, if_pos (nIe h17 (by omega) (by omega))] at hnx; exact hnx _) | (rw [mSp, if_neg (nIn h17), if_pos h41] at hnx; exact hnx _) | (rw [mSp, if_neg (nIn h17), if_neg h41, if_pos h47] at hnx; exact hnx _) | (rw [mSp, if_neg (nIn h17), if_neg h41, if_neg h47] at hnx; exact hnx _)
          · refine T_iload dX4_spare_44 rfl ?_
            refine T_iload_n dX4_spare_46 rfl rfl ?_
            refine T_icmp_ge 55 dX4_spare_47 (by decide) (fun h47 => ?_) (fun h47 => ?_)
            · refine T_iload_n dX4_spare_55 rfl rfl ?_
              refine T_istore2 dX4_spare_56 rfl (by decide) ?_
              first | refine T_iincN3 dX4_spare_57 rfl (by decide) ?_ | refine T_iinc3 dX4_spare_57 rfl rfl (by decide) ?_
              refine T_goto 5 dX4_spare_60 (by decide) ?_
              first | exact absurd h35 h17 | exact absurd h17 h35 | (rw [mSp, if_pos (nIe h17 (by omega) (by omega))] at hnx; exact hnx _) | (rw [mSp, if_neg (nIn h17), if_pos h41] at hnx; exact hnx _) | (rw [mSp, if_neg (nIn h17), if_neg h41, if_pos h47] at hnx; exact hnx _) | (rw [mSp, if_neg (nIn h17), if_neg h41, if_neg h47] at hnx; exact hnx _)
            · refine T_iload dX4_spare_50 rfl ?_
              refine T_goto 56 dX4_spare_52 (by decide) ?_
              refine T_istore2 dX4_spare_56 rfl (by decide) ?_
              first | refine T_iincN3 dX4_spare_57 rfl (by decide) ?_ | refine T_iinc3 dX4_spare_57 rfl rfl (by decide) ?_
              refine T_goto 5 dX4_spare_60 (by decide) ?_
              first | exact absurd h35 h17 | exact absurd h17 h35 | (rw [mSp, if_pos (nIe h17 (by omega) (by omega))] at hnx; exact hnx _) | (rw [mSp, if_neg (nIn h17), if_pos h41] at hnx; exact hnx _) | (rw [mSp, if_neg (nIn h17), if_neg h41, if_pos h47] at hnx; exact hnx _) | (rw [mSp, if_neg (nIn h17), if_neg h41, if_neg h47] at hnx; exact hnx _)
  refine T_bipush (v := -9) dX4_spare_0 (by decide) ?_
  refine T_istore2 dX4_spare_2 rfl (by decide) ?_
  refine T_iconst (v := nI 0) dX4_spare_3 rfl ?_
  refine T_istore3 dX4_spare_4 rfl (by decide) ?_
  exact hlp (mC m) 0 (by omega) none
set_option maxHeartbeats 4000000 in
set_option maxRecDepth 100000 in
theorem k_X4_holders {X : Cx} {l : Launch} {σ0 : Hp} {h : Rg} {m : Nat → Int32} {f : Nat} {w : Int32} (hv4 : Lv X 4 0) (hw : Wm m) (hf : f < 100) : Con X l yX4_holders cX4_holders 5 (some .int) 0 [.ref (adr X 4 0 0), .int (nI f), .int w] (setR σ0 4 0 (up1 h 1 m)) (Ex (some (.int (hoS m f w (mC m)))) (setR σ0 4 0 (up1 h 1 m))) := by
  refine Con_of [some (.ref (adr X 4 0 0)), some (.int (nI f)), some (.int w), none, none] (by decide) rfl (Nat.le_of_ble_eq_true rfl) ?_
  have hW := hw.2.2.2.2
  have hC := hw.2.2.1
  have hlp : ∀ (n k : Nat), k + n = mC m → T X l yX4_holders cX4_holders 5 (some .int) 0 5 [some (.ref (adr X 4 0 0)), some (.int (nI f)), some (.int w), some (.int (hoS m f w k)), some (.int (nI k))] [] (setR σ0 4 0 (up1 h 1 m)) (Ex (some (.int (hoS m f w (mC m)))) (setR σ0 4 0 (up1 h 1 m))) := by
    intro n
    induction n with
    | zero =>
      intro k hk
      have hk : k = mC m := by omega
      subst hk
      refine T_iload dX4_holders_5 rfl ?_
      refine T_aload_n dX4_holders_7 rfl rfl ?_
      refine T_g4F hv4 0 (by decide) fl_X4_7 rfl dX4_holders_8 ?_
      refine T_iconst (v := nI 0) dX4_holders_11 rfl ?_
      refine T_ialM hv4 _ (by omega) rfl dX4_holders_12 ?_
      refine T_icmp_ge 41 dX4_holders_13 (by decide) (fun h13 => ?_) (fun h13 => (absurd (by rw [hw.1]; exact nI_le (Nat.le_refl _) (by omega)) h13))
      refine T_iload_n dX4_holders_41 rfl rfl ?_
      refine T_iret rfl dX4_holders_42 ?_
      exact ⟨rfl, rfl⟩
    | succ n ih =>
      intro k hk
      have hnx := ih (k + 1) (by omega)
      have hk : k < mC m := by omega
      refine T_iload dX4_holders_5 rfl ?_
      refine T_aload_n dX4_holders_7 rfl rfl ?_
      refine T_g4F hv4 0 (by decide) fl_X4_7 rfl dX4_holders_8 ?_
      refine T_iconst (v := nI 0) dX4_holders_11 rfl ?_
      refine T_ialM hv4 _ (by omega) rfl dX4_holders_12 ?_
      refine T_icmp_ge 41 dX4_holders_13 (by decide) (fun h13 => (absurd (hw.1 ▸ h13) (nI_ge hk (by omega)))) (fun h13 => ?_)
      refine T_iload_n dX4_holders_16 rfl rfl ?_
      refine T_aload_n dX4_holders_17 rfl rfl ?_
      refine T_g4F hv4 0 (by decide) fl_X4_7 rfl dX4_holders_18 ?_
      refine T_iload_n dX4_holders_21 rfl rfl ?_
      refine T_iload dX4_holders_22 rfl ?_
      first | refine T_iaddN dX4_holders_24 ?_ | refine T_iadd dX4_holders_24 ?_
      refine T_ialM hv4 _ (by omega) rfl dX4_holders_25 ?_
      refine T_iload_n dX4_holders_26 rfl rfl ?_
      refine T_ishr dX4_holders_27 ?_
      refine T_iconst (v := nI 1) dX4_holders_28 rfl ?_
      refine T_iand dX4_holders_29 ?_
      refine T_iload dX4_holders_30 rfl ?_
      refine T_ishl dX4_holders_32 ?_
      refine T_ior dX4_holders_33 ?_
      refine T_istore3 dX4_holders_34 rfl (by decide) ?_
      first | refine T_iincN4 dX4_holders_35 rfl (by decide) ?_ | refine T_iinc4 dX4_holders_35 rfl rfl (by decide) ?_
      refine T_goto 5 dX4_holders_38 (by decide) ?_
      exact hnx
  refine T_iconst (v := nI 0) dX4_holders_0 rfl ?_
  refine T_istore3 dX4_holders_1 rfl (by decide) ?_
  refine T_iconst (v := nI 0) dX4_holders_2 rfl ?_
  refine T_istore4 dX4_holders_3 rfl (by decide) ?_
  exact hlp (mC m) 0 (by omega)
set_option maxHeartbeats 4000000 in
set_option maxRecDepth 100000 in
theorem k_X4_copy {X : Cx} {l : Launch} {σ0 : Hp} {h : Rg} {m : Nat → Int32} {Q : Option Value → Hp → Prop} {c w : Int32} (hv4 : Lv X 4 0) (hw : Wm m) (hB : ¬ (icM m c ∧ inB w (nI 0) (nI 9)) → Q (some (.int (-1))) (setR σ0 4 0 (up1 h 1 m))) (hO : ∀ i k s, i < mC m → c = nI i → k < 10 → w = nI k → Q (some (.int (mCp m i k))) (setR σ0 4 0 (up1 (up1 h 3 s) 1 m))) : Con X l yX4_copy cX4_copy 3 (some .int) 5 [.ref (adr X 4 0 0), .int c, .int w] (setR σ0 4 0 (up1 h 1 m)) Q := by
  refine Con_of [some (.ref (adr X 4 0 0)), some (.int c), some (.int w)] (by decide) rfl (Nat.le_of_ble_eq_true rfl) ?_
  have hW := hw.2.2.2.2
  have hC := hw.2.2.1
  have h20 : ∀ i k, i < mC m → k < 10 → c = nI i → w = nI k → T X l yX4_copy cX4_copy 3 (some .int) 5 20 [some (.ref (adr X 4 0 0)), some (.int (nI i)), some (.int (nI k))] [] (setR σ0 4 0 (up1 h 1 m)) Q := by
    intro i k hi hk hci hwk
    have hcell : ∀ s, Q (some (.int (mCp m i k))) (setR σ0 4 0 (up1 (up1 h 3 s) 1 m)) := fun s => hO i k s hi hci hk hwk
    have hcel0 : Q (some (.int (mCp m i k))) (setR σ0 4 0 (up1 h 1 m)) := by have h0 := hcell (h 3); rw [up1_id] at h0; exact h0
    rcases (show k = 0 ∨ k = 1 ∨ k = 2 ∨ k = 3 ∨ k = 4 ∨ k = 5 ∨ k = 6 ∨ k = 7 ∨ k = 8 ∨ k = 9 by omega) with rfl | rfl | rfl | rfl | rfl | rfl | rfl | rfl | rfl | rfl
    · refine T_iload_n dX4_copy_20 rfl rfl ?_
      refine T_tableOut 132 dX4_copy_21 (by decide) (by decide) ?_
      refine T_aload_n dX4_copy_132 rfl rfl ?_
      refine T_g4F hv4 0 (by decide) fl_X4_7 rfl dX4_copy_133 ?_
      refine T_iconst (v := nI 2) dX4_copy_136 rfl ?_
      refine T_iconst (v := nI 3) dX4_copy_137 rfl ?_
      refine T_iload_n dX4_copy_138 rfl rfl ?_
      first | refine T_imulN dX4_copy_139 ?_ | refine T_imul dX4_copy_139 ?_
      first | refine T_iaddN dX4_copy_140 ?_ | refine T_iadd dX4_copy_140 ?_
      refine T_iload_n dX4_copy_141 rfl rfl ?_
      first | refine T_iaddN dX4_copy_142 ?_ | refine T_iadd dX4_copy_142 ?_
      refine T_ialM hv4 _ (by omega) rfl dX4_copy_143 ?_
      refine T_iret rfl dX4_copy_144 ?_
      exact hcel0
    · refine T_iload_n dX4_copy_20 rfl rfl ?_
      refine T_tableOut 132 dX4_copy_21 (by decide) (by decide) ?_
      refine T_aload_n dX4_copy_132 rfl rfl ?_
      refine T_g4F hv4 0 (by decide) fl_X4_7 rfl dX4_copy_133 ?_
      refine T_iconst (v := nI 2) dX4_copy_136 rfl ?_
      refine T_iconst (v := nI 3) dX4_copy_137 rfl ?_
      refine T_iload_n dX4_copy_138 rfl rfl ?_
      first | refine T_imulN dX4_copy_139 ?_ | refine T_imul dX4_copy_139 ?_
      first | refine T_iaddN dX4_copy_140 ?_ | refine T_iadd dX4_copy_140 ?_
      refine T_iload_n dX4_copy_141 rfl rfl ?_
      first | refine T_iaddN dX4_copy_142 ?_ | refine T_iadd dX4_copy_142 ?_
      refine T_ialM hv4 _ (by omega) rfl dX4_copy_143 ?_
      refine T_iret rfl dX4_copy_144 ?_
      exact hcel0
    · refine T_iload_n dX4_copy_20 rfl rfl ?_
      refine T_tableOut 132 dX4_copy_21 (by decide) (by decide) ?_
      refine T_aload_n dX4_copy_132 rfl rfl ?_
      refine T_g4F hv4 0 (by decide) fl_X4_7 rfl dX4_copy_133 ?_
      refine T_iconst (v := nI 2) dX4_copy_136 rfl ?_
      refine T_iconst (v := nI 3) dX4_copy_137 rfl ?_
      refine T_iload_n dX4_copy_138 rfl rfl ?_
      first | refine T_imulN dX4_copy_139 ?_ | refine T_imul dX4_copy_139 ?_
      first | refine T_iaddN dX4_copy_140 ?_ | refine T_iadd dX4_copy_140 ?_
      refine T_iload_n dX4_copy_141 rfl rfl ?_
      first | refine T_iaddN dX4_copy_142 ?_ | refine T_iadd dX4_copy_142 ?_
      refine T_ialM hv4 _ (by omega) rfl dX4_copy_143 ?_
      refine T_iret rfl dX4_copy_144 ?_
      exact hcel0
    · refine T_iload_n dX4_copy_20 rfl rfl ?_
      refine T_tableIn (off := 43) 64 dX4_copy_21 (by decide) (by decide) rfl (by decide) ?_
      refine T_aload_n dX4_copy_64 rfl rfl ?_
      refine T_g4F hv4 0 (by decide) fl_X4_7 rfl dX4_copy_65 ?_
      refine T_bipush (v := nI 87) dX4_copy_68 (by decide) ?_
      refine T_iload_n dX4_copy_70 rfl rfl ?_
      first | refine T_iaddN dX4_copy_71 ?_ | refine T_iadd dX4_copy_71 ?_
      refine T_ialM hv4 _ (by omega) rfl dX4_copy_72 ?_
      refine T_iret rfl dX4_copy_73 ?_
      exact hcel0
    · refine T_iload_n dX4_copy_20 rfl rfl ?_
      refine T_tableIn (off := 53) 74 dX4_copy_21 (by decide) (by decide) rfl (by decide) ?_
      refine T_aload_n dX4_copy_74 rfl rfl ?_
      refine T_g4F hv4 0 (by decide) fl_X4_7 rfl dX4_copy_75 ?_
      refine T_bipush (v := nI 91) dX4_copy_78 (by decide) ?_
      refine T_iload_n dX4_copy_80 rfl rfl ?_
      first | refine T_iaddN dX4_copy_81 ?_ | refine T_iadd dX4_copy_81 ?_
      refine T_ialM hv4 _ (by omega) rfl dX4_copy_82 ?_
      refine T_iret rfl dX4_copy_83 ?_
      exact hcel0
    · refine T_iload_n dX4_copy_20 rfl rfl ?_
      refine T_tableIn (off := 63) 84 dX4_copy_21 (by decide) (by decide) rfl (by decide) ?_
      refine T_aload_n dX4_copy_84 rfl rfl ?_
      refine T_aload_n dX4_copy_85 rfl rfl ?_
      refine T_g4F hv4 0 (by decide) fl_X4_7 rfl dX4_copy_86 ?_
      refine T_bipush (v := nI 87) dX4_copy_89 (by decide) ?_
      refine T_iload_n dX4_copy_91 rfl rfl ?_
      first | refine T_iaddN dX4_copy_92 ?_ | refine T_iadd dX4_copy_92 ?_
      refine T_ialM hv4 _ (by omega) rfl dX4_copy_93 ?_
      refine T_vi (Rc_of (hv4 0 (by decide)) rfl rfl) (k_X4_sumOf hv4 hw) ml_X4_129 im_yX4_sumOf se_RX4_yX4_sumOf ini_RX4 co_yX4_sumOf rfl de_X4_sumOf (by decide) (by decide) rfl (Nat.le_of_ble_eq_true rfl) dX4_copy_94 ?_
      refine T_iret rfl dX4_copy_97 ?_
      exact hcel0
    · refine T_iload_n dX4_copy_20 rfl rfl ?_
      refine T_tableIn (off := 77) 98 dX4_copy_21 (by decide) (by decide) rfl (by decide) ?_
      refine T_aload_n dX4_copy_98 rfl rfl ?_
      refine T_aload_n dX4_copy_99 rfl rfl ?_
      refine T_g4F hv4 0 (by decide) fl_X4_7 rfl dX4_copy_100 ?_
      refine T_bipush (v := nI 87) dX4_copy_103 (by decide) ?_
      refine T_iload_n dX4_copy_105 rfl rfl ?_
      first | refine T_iaddN dX4_copy_106 ?_ | refine T_iadd dX4_copy_106 ?_
      refine T_ialM hv4 _ (by omega) rfl dX4_copy_107 ?_
      refine T_iconst (v := -1) dX4_copy_108 rfl ?_
      refine T_ixor dX4_copy_109 ?_
      refine T_vi (Rc_of (hv4 0 (by decide)) rfl rfl) (k_X4_sumOf hv4 hw) ml_X4_129 im_yX4_sumOf se_RX4_yX4_sumOf ini_RX4 co_yX4_sumOf rfl de_X4_sumOf (by decide) (by decide) rfl (Nat.le_of_ble_eq_true rfl) dX4_copy_110 ?_
      refine T_iret rfl dX4_copy_113 ?_
      exact hcel0
    · refine T_iload_n dX4_copy_20 rfl rfl ?_
      refine T_tableIn (off := 93) 114 dX4_copy_21 (by decide) (by decide) rfl (by decide) ?_
      refine T_aload_n dX4_copy_114 rfl rfl ?_
      refine T_iload_n dX4_copy_115 rfl rfl ?_
      refine T_vi (Rc_of (hv4 0 (by decide)) rfl rfl) (k_X4_slowCount hv4 (by omega)) ml_X4_152 im_yX4_slowCount se_RX4_yX4_slowCount ini_RX4 co_yX4_slowCount rfl de_X4_slowCount (by decide) (by decide) rfl (Nat.le_of_ble_eq_true rfl) dX4_copy_116 ?_
      refine T_iret rfl dX4_copy_119 ?_
      exact hcel0
    · refine T_iload_n dX4_copy_20 rfl rfl ?_
      refine T_tableIn (off := 99) 120 dX4_copy_21 (by decide) (by decide) rfl (by decide) ?_
      refine T_aload_n dX4_copy_120 rfl rfl ?_
      refine T_iload_n dX4_copy_121 rfl rfl ?_
      refine T_vs (Rc_of (hv4 0 (by decide)) rfl rfl) (k_X4_readCost hv4 hw (by omega)) ml_X4_167 im_yX4_readCost se_RX4_yX4_readCost ini_RX4 co_yX4_readCost rfl de_X4_readCost (by decide) (by decide) rfl (Nat.le_of_ble_eq_true rfl) dX4_copy_122 (fun s => ?_)
      refine T_iret rfl dX4_copy_125 ?_
      exact hcell s
    · refine T_iload_n dX4_copy_20 rfl rfl ?_
      refine T_tableIn (off := 105) 126 dX4_copy_21 (by decide) (by decide) rfl (by decide) ?_
      refine T_aload_n dX4_copy_126 rfl rfl ?_
      refine T_iload_n dX4_copy_127 rfl rfl ?_
      refine T_vi (Rc_of (hv4 0 (by decide)) rfl rfl) (k_X4_spare hv4 hw (by omega)) ml_X4_170 im_yX4_spare se_RX4_yX4_spare ini_RX4 co_yX4_spare rfl de_X4_spare (by decide) (by decide) rfl (Nat.le_of_ble_eq_true rfl) dX4_copy_128 ?_
      refine T_iret rfl dX4_copy_131 ?_
      exact hcel0
  refine T_aload_n dX4_copy_0 rfl rfl ?_
  refine T_iload_n dX4_copy_1 rfl rfl ?_
  refine T_vi (Rc_of (hv4 0 (by decide)) rfl rfl) (k_X4_isCopy hv4) ml_X4_118 im_yX4_isCopy se_RX4_yX4_isCopy ini_RX4 co_yX4_isCopy rfl de_X4_isCopy (by decide) (by decide) rfl (Nat.le_of_ble_eq_true rfl) dX4_copy_2 ?_
  refine T_if_eq 18 dX4_copy_5 (by decide) (fun h5 => ?_) (fun h5 => ?_)
  · refine T_iconst (v := -1) dX4_copy_18 rfl ?_
    refine T_iret rfl dX4_copy_19 ?_
    refine hB (fun q => ?_)
    first | exact (b01_0 h5) q.1 | exact (b01_0 h15) q.2
  · refine T_iload_n dX4_copy_8 rfl rfl ?_
    refine T_iconst (v := nI 0) dX4_copy_9 rfl ?_
    refine T_bipush (v := nI 9) dX4_copy_10 (by decide) ?_
    refine T_si k_X4_in ml_X4_63 sm_yX4_in ini_RX4 co_yX4_in de_X4_in (by decide) (by decide) rfl (Nat.le_of_ble_eq_true rfl) dX4_copy_12 ?_
    refine T_if_ne 20 dX4_copy_15 (by decide) (fun h15 => ?_) (fun h15 => ?_)
    · obtain ⟨i, hi, hci⟩ := icM_i hw (b01_1 h5)
      obtain ⟨k, -, hk, hwk⟩ := inB_i (by decide) (by decide) (b01_1 h15)
      rw [hci, hwk]
      exact h20 i k hi (by omega) hci hwk
    · refine T_iconst (v := -1) dX4_copy_18 rfl ?_
      refine T_iret rfl dX4_copy_19 ?_
      refine hB (fun q => ?_)
      first | exact (b01_0 h5) q.1 | exact (b01_0 h15) q.2
set_option maxHeartbeats 4000000 in
set_option maxRecDepth 100000 in
theorem k_X4_pair {X : Cx} {l : Launch} {σ0 : Hp} {h : Rg} {m : Nat → Int32} {Q : Option Value → Hp → Prop} {a c w : Int32} (hv4 : Lv X 4 0) (hw : Wm m) (hB : ¬ (apM m a c ∧ inB w (nI 0) (nI 3)) → Q (some (.int (-1))) (setR σ0 4 0 (up1 h 1 m))) (hO : ∀ i j k, i < mC m → j < mC m → a = nI i → c = nI j → ¬ i = j → k < 4 → w = nI k → Q (some (.int (mPr m i j k))) (setR σ0 4 0 (up1 h 1 m))) : Con X l yX4_pair cX4_pair 4 (some .int) 4 [.ref (adr X 4 0 0), .int a, .int c, .int w] (setR σ0 4 0 (up1 h 1 m)) Q := by
  refine Con_of [some (.ref (adr X 4 0 0)), some (.int a), some (.int c), some (.int w)] (by decide) rfl (Nat.le_of_ble_eq_true rfl) ?_
  have hW := hw.2.2.2.2
  have hC := hw.2.2.1
  refine T_aload_n dX4_pair_0 rfl rfl ?_
  refine T_iload_n dX4_pair_1 rfl rfl ?_
  refine T_iload_n dX4_pair_2 rfl rfl ?_
  refine T_vi (Rc_of (hv4 0 (by decide)) rfl rfl) (k_X4_arePair hv4) ml_X4_164 im_yX4_arePair se_RX4_yX4_arePair ini_RX4 co_yX4_arePair rfl de_X4_arePair (by decide) (by decide) rfl (Nat.le_of_ble_eq_true rfl) dX4_pair_3 ?_
  refine T_if_eq 18 dX4_pair_6 (by decide) (fun h6 => ?_) (fun h6 => ?_)
  · refine T_iconst (v := -1) dX4_pair_18 rfl ?_
    refine T_iret rfl dX4_pair_19 ?_
    refine hB (fun q => ?_)
    first | exact (b01_0 h6) q.1 | exact (b01_0 h15) q.2
  · refine T_iload_n dX4_pair_9 rfl rfl ?_
    refine T_iconst (v := nI 0) dX4_pair_10 rfl ?_
    refine T_iconst (v := nI 3) dX4_pair_11 rfl ?_
    refine T_si k_X4_in ml_X4_63 sm_yX4_in ini_RX4 co_yX4_in de_X4_in (by decide) (by decide) rfl (Nat.le_of_ble_eq_true rfl) dX4_pair_12 ?_
    refine T_if_ne 20 dX4_pair_15 (by decide) (fun h15 => ?_) (fun h15 => ?_)
    · have hp := b01_1 h6
      obtain ⟨i, hi, hai⟩ := icM_i hw hp.1
      obtain ⟨j, hj, hcj⟩ := icM_i hw hp.2.1
      have hij : ¬ i = j := fun e => hp.2.2 (by rw [hai, hcj, e])
      rw [hai, hcj]
      refine T_iload_n dX4_pair_20 rfl rfl ?_
      refine T_if_ne 38 dX4_pair_21 (by decide) (fun h21 => ?_) (fun h21 => ?_)
      · refine T_iload_n dX4_pair_38 rfl rfl ?_
        refine T_iconst (v := nI 1) dX4_pair_39 rfl ?_
        refine T_icmp_ne 57 dX4_pair_40 (by decide) (fun h40 => ?_) (fun h40 => ?_)
        · refine T_iload_n dX4_pair_57 rfl rfl ?_
          refine T_iconst (v := nI 2) dX4_pair_58 rfl ?_
          refine T_icmp_ne 71 dX4_pair_59 (by decide) (fun h59 => ?_) (fun h59 => ?_)
          · have hw3 : w = nI 3 := by
              obtain ⟨k, -, hk, e⟩ := inB_i (by decide) (by decide) (b01_1 h15)
              have n0 : ¬ k = 0 := fun z => h21 (by rw [e, z]; rfl)
              have n1 : ¬ k = 1 := fun z => h40 (by rw [e, z])
              have n2 : ¬ k = 2 := fun z => h59 (by rw [e, z])
              rw [e, show k = 3 by omega]
            refine T_aload_n dX4_pair_71 rfl rfl ?_
            refine T_iload_n dX4_pair_72 rfl rfl ?_
            refine T_iload_n dX4_pair_73 rfl rfl ?_
            refine T_vi (Rc_of (hv4 0 (by decide)) rfl rfl) (k_X4_left hv4 hw (by omega) (by omega)) ml_X4_158 im_yX4_left se_RX4_yX4_left ini_RX4 co_yX4_left rfl de_X4_left (by decide) (by decide) rfl (Nat.le_of_ble_eq_true rfl) dX4_pair_74 ?_
            refine T_iret rfl dX4_pair_77 ?_
            first | exact hO i j 3 hi hj hai hcj hij (by decide) hw3 | exact hO i j 0 hi hj hai hcj hij (by decide) h21 | exact hO i j 1 hi hj hai hcj hij (by decide) h40 | exact hO i j 2 hi hj hai hcj hij (by decide) h59
          · refine T_aload_n dX4_pair_62 rfl rfl ?_
            refine T_iload_n dX4_pair_63 rfl rfl ?_
            refine T_iload_n dX4_pair_64 rfl rfl ?_
            refine T_vi (Rc_of (hv4 0 (by decide)) rfl rfl) (k_X4_owed hv4 hw (by omega) (by omega)) ml_X4_136 im_yX4_owed se_RX4_yX4_owed ini_RX4 co_yX4_owed rfl de_X4_owed (by decide) (by decide) rfl (Nat.le_of_ble_eq_true rfl) dX4_pair_65 ?_
            refine T_goto 77 dX4_pair_68 (by decide) ?_
            refine T_iret rfl dX4_pair_77 ?_
            first | exact hO i j 3 hi hj hai hcj hij (by decide) hw3 | exact hO i j 0 hi hj hai hcj hij (by decide) h21 | exact hO i j 1 hi hj hai hcj hij (by decide) h40 | exact hO i j 2 hi hj hai hcj hij (by decide) h59
        · refine T_aload_n dX4_pair_43 rfl rfl ?_
          refine T_g4F hv4 0 (by decide) fl_X4_7 rfl dX4_pair_44 ?_
          refine T_aload_n dX4_pair_47 rfl rfl ?_
          refine T_iload_n dX4_pair_48 rfl rfl ?_
          refine T_iload_n dX4_pair_49 rfl rfl ?_
          refine T_vi (Rc_of (hv4 0 (by decide)) rfl rfl) k_X4_budgetCell ml_X4_132 im_yX4_budgetCell se_RX4_yX4_budgetCell ini_RX4 co_yX4_budgetCell rfl de_X4_budgetCell (by decide) (by decide) rfl (Nat.le_of_ble_eq_true rfl) dX4_pair_50 ?_
          refine T_ialM hv4 _ (by omega) rfl dX4_pair_53 ?_
          refine T_goto 77 dX4_pair_54 (by decide) ?_
          refine T_iret rfl dX4_pair_77 ?_
          first | exact hO i j 3 hi hj hai hcj hij (by decide) hw3 | exact hO i j 0 hi hj hai hcj hij (by decide) h21 | exact hO i j 1 hi hj hai hcj hij (by decide) h40 | exact hO i j 2 hi hj hai hcj hij (by decide) h59
      · refine T_aload_n dX4_pair_24 rfl rfl ?_
        refine T_g4F hv4 0 (by decide) fl_X4_7 rfl dX4_pair_25 ?_
        refine T_aload_n dX4_pair_28 rfl rfl ?_
        refine T_iload_n dX4_pair_29 rfl rfl ?_
        refine T_iload_n dX4_pair_30 rfl rfl ?_
        refine T_vi (Rc_of (hv4 0 (by decide)) rfl rfl) k_X4_heardCell ml_X4_142 im_yX4_heardCell se_RX4_yX4_heardCell ini_RX4 co_yX4_heardCell rfl de_X4_heardCell (by decide) (by decide) rfl (Nat.le_of_ble_eq_true rfl) dX4_pair_31 ?_
        refine T_ialM hv4 _ (by omega) rfl dX4_pair_34 ?_
        refine T_goto 77 dX4_pair_35 (by decide) ?_
        refine T_iret rfl dX4_pair_77 ?_
        first | exact hO i j 3 hi hj hai hcj hij (by decide) hw3 | exact hO i j 0 hi hj hai hcj hij (by decide) h21 | exact hO i j 1 hi hj hai hcj hij (by decide) h40 | exact hO i j 2 hi hj hai hcj hij (by decide) h59
    · refine T_iconst (v := -1) dX4_pair_18 rfl ?_
      refine T_iret rfl dX4_pair_19 ?_
      refine hB (fun q => ?_)
      first | exact (b01_0 h6) q.1 | exact (b01_0 h15) q.2
set_option maxHeartbeats 4000000 in
set_option maxRecDepth 100000 in
theorem k_X4_write {X : Cx} {l : Launch} {σ0 : Hp} {h : Rg} {m : Nat → Int32} {Q : Option Value → Hp → Prop} {v w : Int32} (hv4 : Lv X 4 0) (hw : Wm m) (hB : ¬ (inB v (nI 0) (m 14 - nI 1) ∧ inB w (nI 0) (nI 4)) → Q (some (.int (-1))) (setR σ0 4 0 (up1 h 1 m))) (hO : ∀ i k, i < mW m → v = nI i → k < 5 → w = nI k → Q (some (.int (mWr m i k))) (setR σ0 4 0 (up1 h 1 m))) : Con X l yX4_write cX4_write 3 (some .int) 1 [.ref (adr X 4 0 0), .int v, .int w] (setR σ0 4 0 (up1 h 1 m)) Q := by
  refine Con_of [some (.ref (adr X 4 0 0)), some (.int v), some (.int w)] (by decide) rfl (Nat.le_of_ble_eq_true rfl) ?_
  have hW := hw.2.2.2.2
  have hC := hw.2.2.1
  have h28 : ∀ i k, i < mW m → k < 5 → v = nI i → w = nI k → T X l yX4_write cX4_write 3 (some .int) 1 28 [some (.ref (adr X 4 0 0)), some (.int (nI i)), some (.int (nI k))] [] (setR σ0 4 0 (up1 h 1 m)) Q := by
    intro i k hi hk hvi hwk
    have hcell := hO i k hi hvi hk hwk
    rcases (show k = 0 ∨ k = 1 ∨ k = 2 ∨ k = 3 ∨ k = 4 by omega) with rfl | rfl | rfl | rfl | rfl
    · refine T_iload_n dX4_write_28 rfl rfl ?_
      refine T_iconst (v := nI 3) dX4_write_29 rfl ?_
      refine T_icmp_ge 49 dX4_write_30 (by decide) (fun h30 => (absurd h30 (by decide))) (fun h30 => ?_)
      refine T_aload_n dX4_write_33 rfl rfl ?_
      refine T_g4F hv4 0 (by decide) fl_X4_7 rfl dX4_write_34 ?_
      refine T_bipush (v := nI 15) dX4_write_37 (by decide) ?_
      refine T_iconst (v := nI 3) dX4_write_39 rfl ?_
      refine T_iload_n dX4_write_40 rfl rfl ?_
      first | refine T_imulN dX4_write_41 ?_ | refine T_imul dX4_write_41 ?_
      first | refine T_iaddN dX4_write_42 ?_ | refine T_iadd dX4_write_42 ?_
      refine T_iload_n dX4_write_43 rfl rfl ?_
      first | refine T_iaddN dX4_write_44 ?_ | refine T_iadd dX4_write_44 ?_
      refine T_ialM hv4 _ (by omega) rfl dX4_write_45 ?_
      refine T_goto 66 dX4_write_46 (by decide) ?_
      refine T_iret rfl dX4_write_66 ?_
      exact hcell
    · refine T_iload_n dX4_write_28 rfl rfl ?_
      refine T_iconst (v := nI 3) dX4_write_29 rfl ?_
      refine T_icmp_ge 49 dX4_write_30 (by decide) (fun h30 => (absurd h30 (by decide))) (fun h30 => ?_)
      refine T_aload_n dX4_write_33 rfl rfl ?_
      refine T_g4F hv4 0 (by decide) fl_X4_7 rfl dX4_write_34 ?_
      refine T_bipush (v := nI 15) dX4_write_37 (by decide) ?_
      refine T_iconst (v := nI 3) dX4_write_39 rfl ?_
      refine T_iload_n dX4_write_40 rfl rfl ?_
      first | refine T_imulN dX4_write_41 ?_ | refine T_imul dX4_write_41 ?_
      first | refine T_iaddN dX4_write_42 ?_ | refine T_iadd dX4_write_42 ?_
      refine T_iload_n dX4_write_43 rfl rfl ?_
      first | refine T_iaddN dX4_write_44 ?_ | refine T_iadd dX4_write_44 ?_
      refine T_ialM hv4 _ (by omega) rfl dX4_write_45 ?_
      refine T_goto 66 dX4_write_46 (by decide) ?_
      refine T_iret rfl dX4_write_66 ?_
      exact hcell
    · refine T_iload_n dX4_write_28 rfl rfl ?_
      refine T_iconst (v := nI 3) dX4_write_29 rfl ?_
      refine T_icmp_ge 49 dX4_write_30 (by decide) (fun h30 => (absurd h30 (by decide))) (fun h30 => ?_)
      refine T_aload_n dX4_write_33 rfl rfl ?_
      refine T_g4F hv4 0 (by decide) fl_X4_7 rfl dX4_write_34 ?_
      refine T_bipush (v := nI 15) dX4_write_37 (by decide) ?_
      refine T_iconst (v := nI 3) dX4_write_39 rfl ?_
      refine T_iload_n dX4_write_40 rfl rfl ?_
      first | refine T_imulN dX4_write_41 ?_ | refine T_imul dX4_write_41 ?_
      first | refine T_iaddN dX4_write_42 ?_ | refine T_iadd dX4_write_42 ?_
      refine T_iload_n dX4_write_43 rfl rfl ?_
      first | refine T_iaddN dX4_write_44 ?_ | refine T_iadd dX4_write_44 ?_
      refine T_ialM hv4 _ (by omega) rfl dX4_write_45 ?_
      refine T_goto 66 dX4_write_46 (by decide) ?_
      refine T_iret rfl dX4_write_66 ?_
      exact hcell
    · refine T_iload_n dX4_write_28 rfl rfl ?_
      refine T_iconst (v := nI 3) dX4_write_29 rfl ?_
      refine T_icmp_ge 49 dX4_write_30 (by decide) (fun h30 => ?_) (fun h30 => (absurd (by decide) h30))
      refine T_aload_n dX4_write_49 rfl rfl ?_
      refine T_iload_n dX4_write_50 rfl rfl ?_
      refine T_iconst (v := nI 3) dX4_write_51 rfl ?_
      refine T_icmp_ne 60 dX4_write_52 (by decide) (fun h52 => (absurd rfl h52)) (fun h52 => ?_)
      refine T_bipush (v := nI 87) dX4_write_55 (by decide) ?_
      refine T_goto 62 dX4_write_57 (by decide) ?_
      refine T_iload_n dX4_write_62 rfl rfl ?_
      refine T_vi (Rc_of (hv4 0 (by decide)) rfl rfl) (k_X4_holders hv4 hw (by decide)) ml_X4_173 im_yX4_holders se_RX4_yX4_holders ini_RX4 co_yX4_holders rfl de_X4_holders (by decide) (by decide) rfl (Nat.le_of_ble_eq_true rfl) dX4_write_63 ?_
      refine T_iret rfl dX4_write_66 ?_
      exact hcell
    · refine T_iload_n dX4_write_28 rfl rfl ?_
      refine T_iconst (v := nI 3) dX4_write_29 rfl ?_
      refine T_icmp_ge 49 dX4_write_30 (by decide) (fun h30 => ?_) (fun h30 => (absurd (by decide) h30))
      refine T_aload_n dX4_write_49 rfl rfl ?_
      refine T_iload_n dX4_write_50 rfl rfl ?_
      refine T_iconst (v := nI 3) dX4_write_51 rfl ?_
      refine T_icmp_ne 60 dX4_write_52 (by decide) (fun h52 => ?_) (fun h52 => (absurd h52 (by decide)))
      refine T_bipush (v := nI 91) dX4_write_60 (by decide) ?_
      refine T_iload_n dX4_write_62 rfl rfl ?_
      refine T_vi (Rc_of (hv4 0 (by decide)) rfl rfl) (k_X4_holders hv4 hw (by decide)) ml_X4_173 im_yX4_holders se_RX4_yX4_holders ini_RX4 co_yX4_holders rfl de_X4_holders (by decide) (by decide) rfl (Nat.le_of_ble_eq_true rfl) dX4_write_63 ?_
      refine T_iret rfl dX4_write_66 ?_
      exact hcell
  refine T_iload_n dX4_write_0 rfl rfl ?_
  refine T_iconst (v := nI 0) dX4_write_1 rfl ?_
  refine T_aload_n dX4_write_2 rfl rfl ?_
  refine T_g4F hv4 0 (by decide) fl_X4_7 rfl dX4_write_3 ?_
  refine T_bipush (v := nI 14) dX4_write_6 (by decide) ?_
  refine T_ialM hv4 _ (by omega) rfl dX4_write_8 ?_
  refine T_iconst (v := nI 1) dX4_write_9 rfl ?_
  refine T_isub dX4_write_10 ?_
  refine T_si k_X4_in ml_X4_63 sm_yX4_in ini_RX4 co_yX4_in de_X4_in (by decide) (by decide) rfl (Nat.le_of_ble_eq_true rfl) dX4_write_11 ?_
  refine T_if_eq 26 dX4_write_14 (by decide) (fun h14 => ?_) (fun h14 => ?_)
  · refine T_iconst (v := -1) dX4_write_26 rfl ?_
    refine T_iret rfl dX4_write_27 ?_
    refine hB (fun q => ?_)
    first | exact (b01_0 h14) q.1 | exact (b01_0 h23) q.2
  · refine T_iload_n dX4_write_17 rfl rfl ?_
    refine T_iconst (v := nI 0) dX4_write_18 rfl ?_
    refine T_iconst (v := nI 4) dX4_write_19 rfl ?_
    refine T_si k_X4_in ml_X4_63 sm_yX4_in ini_RX4 co_yX4_in de_X4_in (by decide) (by decide) rfl (Nat.le_of_ble_eq_true rfl) dX4_write_20 ?_
    refine T_if_ne 28 dX4_write_23 (by decide) (fun h23 => ?_) (fun h23 => ?_)
    · obtain ⟨i, hi, hvi⟩ := inW_i hw (b01_1 h14)
      obtain ⟨k, -, hk, hwk⟩ := inB_i (by decide) (by decide) (b01_1 h23)
      rw [hvi, hwk]
      exact h28 i k hi (by omega) hvi hwk
    · refine T_iconst (v := -1) dX4_write_26 rfl ?_
      refine T_iret rfl dX4_write_27 ?_
      refine hB (fun q => ?_)
      first | exact (b01_0 h14) q.1 | exact (b01_0 h23) q.2
set_option maxHeartbeats 4000000 in
set_option maxRecDepth 100000 in
theorem k_X4_costs {X : Cx} {l : Launch} {σ0 : Hp} {h : Rg} {m : Nat → Int32} {Q : Option Value → Hp → Prop} {c w : Int32} (hv4 : Lv X 4 0) (hw : Wm m) (hB : ¬ (icM m c ∧ inB w (nI 1) (nI 999)) → Q (some (.int (-1))) (setR σ0 4 0 (up1 h 1 m))) (hO : ∀ i, i < mC m → c = nI i → inB w (nI 1) (nI 999) → Q (some (.int (nI (pfM m i w (mC m))))) (setR σ0 4 0 (up1 h 1 m))) : Con X l yX4_costs cX4_costs 5 (some .int) 4 [.ref (adr X 4 0 0), .int c, .int w] (setR σ0 4 0 (up1 h 1 m)) Q := by
  refine Con_of [some (.ref (adr X 4 0 0)), some (.int c), some (.int w), none, none] (by decide) rfl (Nat.le_of_ble_eq_true rfl) ?_
  have hW := hw.2.2.2.2
  have hC := hw.2.2.1
  have h26 : ∀ i, i < mC m → ∀ (e k : Nat), k + e = mC m → T X l yX4_costs cX4_costs 5 (some .int) 4 26 [some (.ref (adr X 4 0 0)), some (.int (nI i)), some (.int w), some (.int (nI (pfM m i w k))), some (.int (nI k))] [] (setR σ0 4 0 (up1 h 1 m)) (Ex (some (.int (nI (pfM m i w (mC m))))) (setR σ0 4 0 (up1 h 1 m))) := by
    intro i hi e
    induction e with
    | zero =>
      intro k hk
      have hk : k = mC m := by omega
      subst hk
      refine T_iload dX4_costs_26 rfl ?_
      refine T_aload_n dX4_costs_28 rfl rfl ?_
      refine T_g4F hv4 0 (by decide) fl_X4_7 rfl dX4_costs_29 ?_
      refine T_iconst (v := nI 0) dX4_costs_32 rfl ?_
      refine T_ialM hv4 _ (by omega) rfl dX4_costs_33 ?_
      refine T_icmp_ge 68 dX4_costs_34 (by decide) (fun h34 => ?_) (fun h34 => (absurd (by rw [hw.1]; exact nI_le (Nat.le_refl _) (by omega)) h34))
      refine T_iload_n dX4_costs_68 rfl rfl ?_
      refine T_iret rfl dX4_costs_69 ?_
      exact ⟨rfl, rfl⟩
    | succ e ih =>
      intro k hk
      have hnx := ih (k + 1) (by omega)
      have hk : k < mC m := by omega
      refine T_iload dX4_costs_26 rfl ?_
      refine T_aload_n dX4_costs_28 rfl rfl ?_
      refine T_g4F hv4 0 (by decide) fl_X4_7 rfl dX4_costs_29 ?_
      refine T_iconst (v := nI 0) dX4_costs_32 rfl ?_
      refine T_ialM hv4 _ (by omega) rfl dX4_costs_33 ?_
      refine T_icmp_ge 68 dX4_costs_34 (by decide) (fun h34 => (absurd (hw.1 ▸ h34) (nI_ge hk (by omega)))) (fun h34 => ?_)
      refine T_iload_n dX4_costs_37 rfl rfl ?_
      refine T_iload dX4_costs_38 rfl ?_
      refine T_iload_n dX4_costs_40 rfl rfl ?_
      refine T_icmp_eq 59 dX4_costs_41 (by decide) (fun h41 => ?_) (fun h41 => ?_)
      · refine T_iconst (v := nI 0) dX4_costs_59 rfl ?_
        first | refine T_iaddN dX4_costs_60 ?_ | refine T_iadd dX4_costs_60 ?_
        refine T_istore3 dX4_costs_61 rfl (by decide) ?_
        first | refine T_iincN4 dX4_costs_62 rfl (by decide) ?_ | refine T_iinc4 dX4_costs_62 rfl rfl (by decide) ?_
        refine T_goto 26 dX4_costs_65 (by decide) ?_
        first | (rw [pfM, if_pos (nIe h41 (by omega) (by omega))] at hnx; exact hnx) | (rw [pfM, if_neg (nIn h41), if_pos h52] at hnx; exact hnx) | (rw [pfM, if_neg (nIn h41), if_neg h52] at hnx; exact hnx)
      · refine T_aload_n dX4_costs_44 rfl rfl ?_
        refine T_iload_n dX4_costs_45 rfl rfl ?_
        refine T_iload dX4_costs_46 rfl ?_
        refine T_vi (Rc_of (hv4 0 (by decide)) rfl rfl) (k_X4_left hv4 hw (by omega) (by omega)) ml_X4_158 im_yX4_left se_RX4_yX4_left ini_RX4 co_yX4_left rfl de_X4_left (by decide) (by decide) rfl (Nat.le_of_ble_eq_true rfl) dX4_costs_48 ?_
        refine T_iload_n dX4_costs_51 rfl rfl ?_
        refine T_icmp_ge 59 dX4_costs_52 (by decide) (fun h52 => ?_) (fun h52 => ?_)
        · refine T_iconst (v := nI 0) dX4_costs_59 rfl ?_
          first | refine T_iaddN dX4_costs_60 ?_ | refine T_iadd dX4_costs_60 ?_
          refine T_istore3 dX4_costs_61 rfl (by decide) ?_
          first | refine T_iincN4 dX4_costs_62 rfl (by decide) ?_ | refine T_iinc4 dX4_costs_62 rfl rfl (by decide) ?_
          refine T_goto 26 dX4_costs_65 (by decide) ?_
          first | (rw [pfM, if_pos (nIe h41 (by omega) (by omega))] at hnx; exact hnx) | (rw [pfM, if_neg (nIn h41), if_pos h52] at hnx; exact hnx) | (rw [pfM, if_neg (nIn h41), if_neg h52] at hnx; exact hnx)
        · refine T_iconst (v := nI 1) dX4_costs_55 rfl ?_
          refine T_goto 60 dX4_costs_56 (by decide) ?_
          first | refine T_iaddN dX4_costs_60 ?_ | refine T_iadd dX4_costs_60 ?_
          refine T_istore3 dX4_costs_61 rfl (by decide) ?_
          first | refine T_iincN4 dX4_costs_62 rfl (by decide) ?_ | refine T_iinc4 dX4_costs_62 rfl rfl (by decide) ?_
          refine T_goto 26 dX4_costs_65 (by decide) ?_
          first | (rw [pfM, if_pos (nIe h41 (by omega) (by omega))] at hnx; exact hnx) | (rw [pfM, if_neg (nIn h41), if_pos h52] at hnx; exact hnx) | (rw [pfM, if_neg (nIn h41), if_neg h52] at hnx; exact hnx)
  refine T_aload_n dX4_costs_0 rfl rfl ?_
  refine T_iload_n dX4_costs_1 rfl rfl ?_
  refine T_vi (Rc_of (hv4 0 (by decide)) rfl rfl) (k_X4_isCopy hv4) ml_X4_118 im_yX4_isCopy se_RX4_yX4_isCopy ini_RX4 co_yX4_isCopy rfl de_X4_isCopy (by decide) (by decide) rfl (Nat.le_of_ble_eq_true rfl) dX4_costs_2 ?_
  refine T_if_eq 19 dX4_costs_5 (by decide) (fun h5 => ?_) (fun h5 => ?_)
  · refine T_iconst (v := -1) dX4_costs_19 rfl ?_
    refine T_iret rfl dX4_costs_20 ?_
    refine hB (fun q => ?_)
    first | exact (b01_0 h5) q.1 | exact (b01_0 h16) q.2
  · refine T_iload_n dX4_costs_8 rfl rfl ?_
    refine T_iconst (v := nI 1) dX4_costs_9 rfl ?_
    refine T_sipush (v := nI 999) dX4_costs_10 (by decide) ?_
    refine T_si k_X4_in ml_X4_63 sm_yX4_in ini_RX4 co_yX4_in de_X4_in (by decide) (by decide) rfl (Nat.le_of_ble_eq_true rfl) dX4_costs_13 ?_
    refine T_if_ne 21 dX4_costs_16 (by decide) (fun h16 => ?_) (fun h16 => ?_)
    · refine T_iconst (v := nI 0) dX4_costs_21 rfl ?_
      refine T_istore3 dX4_costs_22 rfl (by decide) ?_
      refine T_iconst (v := nI 0) dX4_costs_23 rfl ?_
      refine T_istore4 dX4_costs_24 rfl (by decide) ?_
      obtain ⟨i, hi, hci⟩ := icM_i hw (b01_1 h5)
      rw [hci]
      exact T_Q (fun r u q => by obtain ⟨rfl, rfl⟩ := q; exact hO i hi hci (b01_1 h16)) (h26 i hi (mC m) 0 (by omega))
    · refine T_iconst (v := -1) dX4_costs_19 rfl ?_
      refine T_iret rfl dX4_costs_20 ?_
      refine hB (fun q => ?_)
      first | exact (b01_0 h5) q.1 | exact (b01_0 h16) q.2
set_option maxHeartbeats 4000000 in
set_option maxRecDepth 100000 in
theorem k_X4_sees {X : Cx} {l : Launch} {σ0 : Hp} {h : Rg} {Q : Option Value → Hp → Prop} {s : Nat} {v n : Int32} (hv4 : Lv X 4 0) (hs : h 0 15 = nI s) (hs6 : s ≤ 6) (hB : ¬ (inB v (nI 0) (nI 2) ∧ inB n (nI 0) (nI 999)) → Q (some (.int (-1))) (setR σ0 4 0 h)) (hF : (inB v (nI 0) (nI 2) ∧ inB n (nI 0) (nI 999)) → ¬ s < 6 → Q (some (.int (-3))) (setR σ0 4 0 h)) (hO : (inB v (nI 0) (nI 2) ∧ inB n (nI 0) (nI 999)) → s < 6 → Q (some (.int (nI (s + 1)))) (setR σ0 4 0 (up2 (up2 (up2 h 8 s v) 9 s n) 0 15 (nI (s + 1))))) : Con X l yX4_sees cX4_sees 3 (some .int) 1 [.ref (adr X 4 0 0), .int v, .int n] (setR σ0 4 0 h) Q := by
  refine Con_of [some (.ref (adr X 4 0 0)), some (.int v), some (.int n)] (by decide) rfl (Nat.le_of_ble_eq_true rfl) ?_
  refine T_iload_n dX4_sees_0 rfl rfl ?_
  refine T_iconst (v := nI 0) dX4_sees_1 rfl ?_
  refine T_iconst (v := nI 2) dX4_sees_2 rfl ?_
  refine T_si k_X4_in ml_X4_63 sm_yX4_in ini_RX4 co_yX4_in de_X4_in (by decide) (by decide) rfl (Nat.le_of_ble_eq_true rfl) dX4_sees_3 ?_
  refine T_if_eq 20 dX4_sees_6 (by decide) (fun h6 => ?_) (fun h6 => ?_)
  · refine T_iconst (v := -1) dX4_sees_20 rfl ?_
    refine T_iret rfl dX4_sees_21 ?_
    refine hB (fun q => ?_)
    first | exact (b01_0 h6) q.1 | exact (b01_0 h17) q.2
  · refine T_iload_n dX4_sees_9 rfl rfl ?_
    refine T_iconst (v := nI 0) dX4_sees_10 rfl ?_
    refine T_sipush (v := nI 999) dX4_sees_11 (by decide) ?_
    refine T_si k_X4_in ml_X4_63 sm_yX4_in ini_RX4 co_yX4_in de_X4_in (by decide) (by decide) rfl (Nat.le_of_ble_eq_true rfl) dX4_sees_14 ?_
    refine T_if_ne 22 dX4_sees_17 (by decide) (fun h17 => ?_) (fun h17 => ?_)
    · refine T_aload_n dX4_sees_22 rfl rfl ?_
      refine T_g4F hv4 15 (by decide) fl_X4_176 rfl dX4_sees_23 ?_
      refine T_bipush (v := nI 6) dX4_sees_26 (by decide) ?_
      refine T_icmp_ne 34 dX4_sees_28 (by decide) (fun h28 => ?_) (fun h28 => ?_)
      · have hlt : s < 6 := Classical.byContradiction fun z => h28 (by rw [hs, show s = 6 by omega])
        refine T_aload_n dX4_sees_34 rfl rfl ?_
        refine T_g4F hv4 13 (by decide) fl_X4_32 rfl dX4_sees_35 ?_
        refine T_aload_n dX4_sees_38 rfl rfl ?_
        refine T_g4F hv4 15 (by decide) fl_X4_176 rfl dX4_sees_39 ?_
        refine T_iload_n dX4_sees_42 rfl rfl ?_
        refine T_iastF (hv4 _ (by decide)) (fun _ => rfl) (Nat.le_of_ble_eq_true rfl) (s) (by omega) (hs) dX4_sees_43 ?_
        refine T_aload_n dX4_sees_44 rfl rfl ?_
        refine T_g4F hv4 14 (by decide) fl_X4_35 rfl dX4_sees_45 ?_
        refine T_aload_n dX4_sees_48 rfl rfl ?_
        refine T_g4F hv4 15 (by decide) fl_X4_176 rfl dX4_sees_49 ?_
        refine T_iload_n dX4_sees_52 rfl rfl ?_
        refine T_iastF (hv4 _ (by decide)) (fun _ => rfl) (Nat.le_of_ble_eq_true rfl) (s) (by omega) (hs) dX4_sees_53 ?_
        refine T_aload_n dX4_sees_54 rfl rfl ?_
        refine T_dup dX4_sees_55 rfl ?_
        refine T_g4F (v := .int (nI s)) hv4 15 (by decide) fl_X4_176 (congrArg (fun z => some (Value.int z)) hs) dX4_sees_56 ?_
        refine T_iconst (v := nI 1) dX4_sees_59 rfl ?_
        first | refine T_iaddN dX4_sees_60 ?_ | refine T_iadd dX4_sees_60 ?_
        refine T_p4F hv4 15 (by decide) rfl rfl fl_X4_176 (by decide) rfl dX4_sees_61 ?_
        refine T_aload_n dX4_sees_64 rfl rfl ?_
        refine T_g4F hv4 15 (by decide) fl_X4_176 rfl dX4_sees_65 ?_
        refine T_iret rfl dX4_sees_68 ?_
        exact hO ⟨b01_1 h6, b01_1 h17⟩ hlt
      · refine T_bipush (v := -3) dX4_sees_31 (by decide) ?_
        refine T_iret rfl dX4_sees_33 ?_
        exact hF ⟨b01_1 h6, b01_1 h17⟩ (fun z => by rw [hs] at h28; have := nIe h28 (by omega) (by decide); omega)
    · refine T_iconst (v := -1) dX4_sees_20 rfl ?_
      refine T_iret rfl dX4_sees_21 ?_
      refine hB (fun q => ?_)
      first | exact (b01_0 h6) q.1 | exact (b01_0 h17) q.2
set_option maxHeartbeats 4000000 in
set_option maxRecDepth 100000 in
theorem k_X4_forget {X : Cx} {l : Launch} {σ0 : Hp} {h : Rg} (hv4 : Lv X 4 0) : Con X l yX4_forget cX4_forget 2 (some .int) 0 [.ref (adr X 4 0 0)] (setR σ0 4 0 h) (Ex (some (.int (h 0 15))) (setR σ0 4 0 (up2 h 0 15 (nI 0)))) := by
  refine Con_of [some (.ref (adr X 4 0 0)), none] (by decide) rfl (Nat.le_of_ble_eq_true rfl) ?_
  refine T_aload_n dX4_forget_0 rfl rfl ?_
  refine T_g4F hv4 15 (by decide) fl_X4_176 rfl dX4_forget_1 ?_
  refine T_istore1 dX4_forget_4 rfl (by decide) ?_
  refine T_aload_n dX4_forget_5 rfl rfl ?_
  refine T_iconst (v := nI 0) dX4_forget_6 rfl ?_
  refine T_p4F hv4 15 (by decide) rfl rfl fl_X4_176 (by decide) rfl dX4_forget_7 ?_
  refine T_iload_n dX4_forget_10 rfl rfl ?_
  refine T_iret rfl dX4_forget_11 ?_
  exact ⟨rfl, rfl⟩
set_option maxHeartbeats 4000000 in
set_option maxRecDepth 100000 in
theorem k_X4_property {X : Cx} {l : Launch} {σ0 : Hp} {h : Rg} {m s : Nat → Int32} {c : Nat} {w : Int32} (hv4 : Lv X 4 0) (hw : Wm m) (hc : c < 4) : Con X l yX4_property cX4_property 3 (some .int) 4 [.ref (adr X 4 0 0), .int (nI c), .int w] (setR σ0 4 0 (up1 (up1 h 3 s) 1 m)) (ExS (prM m c w) σ0 h m) := by
  refine Con_of [some (.ref (adr X 4 0 0)), some (.int (nI c)), some (.int w)] (by decide) rfl (Nat.le_of_ble_eq_true rfl) ?_
  refine T_iload_n dX4_property_0 rfl rfl ?_
  refine T_if_ne 20 dX4_property_1 (by decide) (fun h1 => ?_) (fun h1 => ?_)
  · refine T_iload_n dX4_property_20 rfl rfl ?_
    refine T_iconst (v := nI 1) dX4_property_21 rfl ?_
    refine T_icmp_ne 33 dX4_property_22 (by decide) (fun h22 => ?_) (fun h22 => ?_)
    · refine T_aload_n dX4_property_33 rfl rfl ?_
      refine T_iload_n dX4_property_34 rfl rfl ?_
      refine T_vs (Rc_of (hv4 0 (by decide)) rfl rfl) (con_s3 (k_X4_readCost hv4 hw (by omega))) ml_X4_167 im_yX4_readCost se_RX4_yX4_readCost ini_RX4 co_yX4_readCost rfl de_X4_readCost (by decide) (by decide) rfl (Nat.le_of_ble_eq_true rfl) dX4_property_35 (fun s => ?_)
      refine T_iret rfl dX4_property_38 ?_
      first | (refine ⟨?_, s, rfl⟩; rw [prM, if_pos h1]) | (refine ⟨?_, s, rfl⟩; rw [prM, if_neg h1, if_pos h22]) | (refine ⟨?_, s, rfl⟩; rw [prM, if_neg h1, if_neg h22])
    · refine T_aload_n dX4_property_25 rfl rfl ?_
      refine T_iload_n dX4_property_26 rfl rfl ?_
      refine T_vi (Rc_of (hv4 0 (by decide)) rfl rfl) (k_X4_slowCount hv4 (by omega)) ml_X4_152 im_yX4_slowCount se_RX4_yX4_slowCount ini_RX4 co_yX4_slowCount rfl de_X4_slowCount (by decide) (by decide) rfl (Nat.le_of_ble_eq_true rfl) dX4_property_27 ?_
      refine T_goto 38 dX4_property_30 (by decide) ?_
      refine T_iret rfl dX4_property_38 ?_
      first | (refine ⟨?_, s, rfl⟩; rw [prM, if_pos h1]) | (refine ⟨?_, s, rfl⟩; rw [prM, if_neg h1, if_pos h22]) | (refine ⟨?_, s, rfl⟩; rw [prM, if_neg h1, if_neg h22])
  · refine T_aload_n dX4_property_4 rfl rfl ?_
    refine T_aload_n dX4_property_5 rfl rfl ?_
    refine T_g4F hv4 0 (by decide) fl_X4_7 rfl dX4_property_6 ?_
    refine T_bipush (v := nI 87) dX4_property_9 (by decide) ?_
    refine T_iload_n dX4_property_11 rfl rfl ?_
    first | refine T_iaddN dX4_property_12 ?_ | refine T_iadd dX4_property_12 ?_
    refine T_ialM hv4 _ (by omega) rfl dX4_property_13 ?_
    refine T_vi (Rc_of (hv4 0 (by decide)) rfl rfl) (k_X4_sumOf hv4 hw) ml_X4_129 im_yX4_sumOf se_RX4_yX4_sumOf ini_RX4 co_yX4_sumOf rfl de_X4_sumOf (by decide) (by decide) rfl (Nat.le_of_ble_eq_true rfl) dX4_property_14 ?_
    refine T_goto 38 dX4_property_17 (by decide) ?_
    refine T_iret rfl dX4_property_38 ?_
    first | (refine ⟨?_, s, rfl⟩; rw [prM, if_pos h1]) | (refine ⟨?_, s, rfl⟩; rw [prM, if_neg h1, if_pos h22]) | (refine ⟨?_, s, rfl⟩; rw [prM, if_neg h1, if_neg h22])
theorem ca0 {P : Nat → Prop} {b : Int32} {k : Nat} (hb : (b = nI 1 ∧ ∀ i, i < k → P i) ∨ (b = nI 0 ∧ ¬ ∀ i, i < k → P i)) (h : b = 0) : ¬ ∀ i, i < k + 1 → P i := by
  rcases hb with q | q
  · exact absurd (q.1.symm.trans h) (by decide)
  · exact fun z => q.2 (fun i hi => z i (by omega))
theorem ca1 {P : Nat → Prop} {b : Int32} {k : Nat} (hb : (b = nI 1 ∧ ∀ i, i < k → P i) ∨ (b = nI 0 ∧ ¬ ∀ i, i < k → P i)) (h : ¬ b = 0) (hk : P k) : ∀ i, i < k + 1 → P i := by
  rcases hb with q | q
  · intro i hi
    rcases (show i < k ∨ i = k by omega) with z | z
    · exact q.2 i z
    · rw [z]; exact hk
  · exact absurd (q.1.trans (by decide)) h
theorem ca2 {P : Nat → Prop} {k : Nat} (hk : ¬ P k) : ¬ ∀ i, i < k + 1 → P i := fun z => hk (z k (by omega))
theorem cb1 {P : Prop} {b : Int32} (hb : (b = nI 1 ∧ P) ∨ (b = nI 0 ∧ ¬ P)) (h : ¬ b = 0) : P := by
  rcases hb with q | q
  · exact q.2
  · exact absurd (q.1.trans (by decide)) h
theorem cb0 {P : Prop} {b : Int32} (hb : (b = nI 1 ∧ P) ∨ (b = nI 0 ∧ ¬ P)) (h : b = 0) : ¬ P := by
  rcases hb with q | q
  · exact absurd (q.1.symm.trans h) (by decide)
  · exact q.2
set_option maxHeartbeats 4000000 in
set_option maxRecDepth 100000 in
theorem k_X4_candidates {X : Cx} {l : Launch} {σ0 : Hp} {h : Rg} {m s : Nat → Int32} {f : Nat} (hv4 : Lv X 4 0) (hw : Wm m) (hf : h 0 15 = nI f) (hf6 : f ≤ 6) : Con X l yX4_candidates cX4_candidates 5 (some .int) 5 [.ref (adr X 4 0 0)] (setR σ0 4 0 (up1 (up1 h 3 s) 1 m)) (ExS (caM m (h 8) (h 9) f (mC m)) σ0 h m) := by
  refine Con_of [some (.ref (adr X 4 0 0)), none, none, none, none] (by decide) rfl (Nat.le_of_ble_eq_true rfl) ?_
  have hW := hw.2.2.2.2
  have hC := hw.2.2.1
  have hin : ∀ (c : Nat) (a : Int32), c < mC m → (∀ (b : Int32) (s : Nat → Int32) (v : Option Value), ((b = nI 1 ∧ (fitM m (h 8) (h 9) f c)) ∨ (b = nI 0 ∧ ¬ (fitM m (h 8) (h 9) f c))) → T X l yX4_candidates cX4_candidates 5 (some .int) 5 66 [some (.ref (adr X 4 0 0)), some (.int a), some (.int (nI c)), some (.int b), v] [] (setR σ0 4 0 (up1 (up1 h 3 s) 1 m)) (ExS (caM m (h 8) (h 9) f (mC m)) σ0 h m)) → ∀ (e k : Nat) (b : Int32) (s : Nat → Int32), k + e = f → ((b = nI 1 ∧ (∀ i, i < k → prM m c (h 8 i) = h 9 i)) ∨ (b = nI 0 ∧ ¬ (∀ i, i < k → prM m c (h 8 i) = h 9 i))) → T X l yX4_candidates cX4_candidates 5 (some .int) 5 19 [some (.ref (adr X 4 0 0)), some (.int a), some (.int (nI c)), some (.int b), some (.int (nI k))] [] (setR σ0 4 0 (up1 (up1 h 3 s) 1 m)) (ExS (caM m (h 8) (h 9) f (mC m)) σ0 h m) := by
    intro c a hc hout e
    induction e with
    | zero =>
      intro k b s hk hb
      have hk : f = k := by omega
      subst hk
      refine T_iload dX4_candidates_19 rfl ?_
      refine T_aload_n dX4_candidates_21 rfl rfl ?_
      refine T_g4F (v := .int (nI f)) hv4 15 (by decide) fl_X4_176 (congrArg (fun z => some (Value.int z)) hf) dX4_candidates_22 ?_
      refine T_icmp_ge 66 dX4_candidates_25 (by decide) (fun h25 => ?_) (fun h25 => (absurd (nI_le (Nat.le_refl _) (by omega)) h25))
      exact hout b s _ hb
    | succ e ih =>
      intro k b s hk hb
      have hk2 : k < f := by omega
      refine T_iload dX4_candidates_19 rfl ?_
      refine T_aload_n dX4_candidates_21 rfl rfl ?_
      refine T_g4F (v := .int (nI f)) hv4 15 (by decide) fl_X4_176 (congrArg (fun z => some (Value.int z)) hf) dX4_candidates_22 ?_
      refine T_icmp_ge 66 dX4_candidates_25 (by decide) (fun h25 => (absurd h25 (nI_ge hk2 (by omega)))) (fun h25 => ?_)
      refine T_iload_n dX4_candidates_28 rfl rfl ?_
      refine T_if_eq 58 dX4_candidates_29 (by decide) (fun h29 => ?_) (fun h29 => ?_)
      · refine T_iconst (v := nI 0) dX4_candidates_58 rfl ?_
        refine T_istore3 dX4_candidates_59 rfl (by decide) ?_
        first | refine T_iincN4 dX4_candidates_60 rfl (by decide) ?_ | refine T_iinc4 dX4_candidates_60 rfl rfl (by decide) ?_
        refine T_goto 19 dX4_candidates_63 (by decide) ?_
        first | exact ih (k + 1) _ s (by omega) (Or.inr ⟨rfl, ca0 hb h29⟩) | exact ih (k + 1) _ s (by omega) (Or.inl ⟨rfl, ca1 hb h29 h51⟩) | exact ih (k + 1) _ s (by omega) (Or.inr ⟨rfl, ca2 h51⟩)
      · refine T_aload_n dX4_candidates_32 rfl rfl ?_
        refine T_iload_n dX4_candidates_33 rfl rfl ?_
        refine T_aload_n dX4_candidates_34 rfl rfl ?_
        refine T_g4F hv4 13 (by decide) fl_X4_32 rfl dX4_candidates_35 ?_
        refine T_iload dX4_candidates_38 rfl ?_
        refine T_iald (g := h 8) rfl (hv4 _ (by decide)) rfl (Nat.le_of_ble_eq_true rfl) k (by omega) rfl dX4_candidates_40 ?_
        refine T_vs (Rc_of (hv4 0 (by decide)) rfl rfl) (k_X4_property hv4 hw (by omega)) ml_X4_179 im_yX4_property se_RX4_yX4_property ini_RX4 co_yX4_property rfl de_X4_property (by decide) (by decide) rfl (Nat.le_of_ble_eq_true rfl) dX4_candidates_41 (fun s => ?_)
        refine T_aload_n dX4_candidates_44 rfl rfl ?_
        refine T_g4F hv4 14 (by decide) fl_X4_35 rfl dX4_candidates_45 ?_
        refine T_iload dX4_candidates_48 rfl ?_
        refine T_iald (g := h 9) rfl (hv4 _ (by decide)) rfl (Nat.le_of_ble_eq_true rfl) k (by omega) rfl dX4_candidates_50 ?_
        refine T_icmp_ne 58 dX4_candidates_51 (by decide) (fun h51 => ?_) (fun h51 => ?_)
        · refine T_iconst (v := nI 0) dX4_candidates_58 rfl ?_
          refine T_istore3 dX4_candidates_59 rfl (by decide) ?_
          first | refine T_iincN4 dX4_candidates_60 rfl (by decide) ?_ | refine T_iinc4 dX4_candidates_60 rfl rfl (by decide) ?_
          refine T_goto 19 dX4_candidates_63 (by decide) ?_
          first | exact ih (k + 1) _ s (by omega) (Or.inr ⟨rfl, ca0 hb h29⟩) | exact ih (k + 1) _ s (by omega) (Or.inl ⟨rfl, ca1 hb h29 h51⟩) | exact ih (k + 1) _ s (by omega) (Or.inr ⟨rfl, ca2 h51⟩)
        · refine T_iconst (v := nI 1) dX4_candidates_54 rfl ?_
          refine T_goto 59 dX4_candidates_55 (by decide) ?_
          refine T_istore3 dX4_candidates_59 rfl (by decide) ?_
          first | refine T_iincN4 dX4_candidates_60 rfl (by decide) ?_ | refine T_iinc4 dX4_candidates_60 rfl rfl (by decide) ?_
          refine T_goto 19 dX4_candidates_63 (by decide) ?_
          first | exact ih (k + 1) _ s (by omega) (Or.inr ⟨rfl, ca0 hb h29⟩) | exact ih (k + 1) _ s (by omega) (Or.inl ⟨rfl, ca1 hb h29 h51⟩) | exact ih (k + 1) _ s (by omega) (Or.inr ⟨rfl, ca2 h51⟩)
  have hlp : ∀ (e c : Nat) (s : Nat → Int32) (v3 v4 : Option Value), c + e = mC m → T X l yX4_candidates cX4_candidates 5 (some .int) 5 4 [some (.ref (adr X 4 0 0)), some (.int (caM m (h 8) (h 9) f c)), some (.int (nI c)), v3, v4] [] (setR σ0 4 0 (up1 (up1 h 3 s) 1 m)) (ExS (caM m (h 8) (h 9) f (mC m)) σ0 h m) := by
    intro e
    induction e with
    | zero =>
      intro k s v3 v4 hk
      have hk : k = mC m := by omega
      subst hk
      refine T_iload_n dX4_candidates_4 rfl rfl ?_
      refine T_aload_n dX4_candidates_5 rfl rfl ?_
      refine T_g4F hv4 0 (by decide) fl_X4_7 rfl dX4_candidates_6 ?_
      refine T_iconst (v := nI 0) dX4_candidates_9 rfl ?_
      refine T_ialM hv4 _ (by omega) rfl dX4_candidates_10 ?_
      refine T_icmp_ge 86 dX4_candidates_11 (by decide) (fun h11 => ?_) (fun h11 => (absurd (by rw [hw.1]; exact nI_le (Nat.le_refl _) (by omega)) h11))
      refine T_iload_n dX4_candidates_86 rfl rfl ?_
      refine T_iret rfl dX4_candidates_87 ?_
      exact ⟨rfl, s, rfl⟩
    | succ e ih =>
      intro k s v3 v4 hk
      have hnx := fun s v3 v4 => ih (k + 1) s v3 v4 (by omega)
      have hk : k < mC m := by omega
      rw [caM] at hnx
      refine T_iload_n dX4_candidates_4 rfl rfl ?_
      refine T_aload_n dX4_candidates_5 rfl rfl ?_
      refine T_g4F hv4 0 (by decide) fl_X4_7 rfl dX4_candidates_6 ?_
      refine T_iconst (v := nI 0) dX4_candidates_9 rfl ?_
      refine T_ialM hv4 _ (by omega) rfl dX4_candidates_10 ?_
      refine T_icmp_ge 86 dX4_candidates_11 (by decide) (fun h11 => (absurd (hw.1 ▸ h11) (nI_ge hk (by omega)))) (fun h11 => ?_)
      refine T_iconst (v := nI 1) dX4_candidates_14 rfl ?_
      refine T_istore3 dX4_candidates_15 rfl (by decide) ?_
      refine T_iconst (v := nI 0) dX4_candidates_16 rfl ?_
      refine T_istore4 dX4_candidates_17 rfl (by decide) ?_
      refine hin k _ hk (fun b s v hb => ?_) f 0 (nI 1) s (by omega) (Or.inl ⟨rfl, fun i hi => absurd hi (Nat.not_lt_zero i)⟩)
      refine T_iload_n dX4_candidates_66 rfl rfl ?_
      refine T_iload_n dX4_candidates_67 rfl rfl ?_
      refine T_if_eq 77 dX4_candidates_68 (by decide) (fun h68 => ?_) (fun h68 => ?_)
      · refine T_iconst (v := nI 0) dX4_candidates_77 rfl ?_
        refine T_ior dX4_candidates_78 ?_
        refine T_istore1 dX4_candidates_79 rfl (by decide) ?_
        first | refine T_iincN2 dX4_candidates_80 rfl (by decide) ?_ | refine T_iinc2 dX4_candidates_80 rfl rfl (by decide) ?_
        refine T_goto 4 dX4_candidates_83 (by decide) ?_
        first | (rw [if_pos (cb1 hb h68)] at hnx; exact hnx s _ _) | (rw [if_neg (cb0 hb h68)] at hnx; rw [or_0]; exact hnx s _ _)
      · refine T_iconst (v := nI 1) dX4_candidates_71 rfl ?_
        refine T_iload_n dX4_candidates_72 rfl rfl ?_
        refine T_ishl dX4_candidates_73 ?_
        refine T_goto 78 dX4_candidates_74 (by decide) ?_
        refine T_ior dX4_candidates_78 ?_
        refine T_istore1 dX4_candidates_79 rfl (by decide) ?_
        first | refine T_iincN2 dX4_candidates_80 rfl (by decide) ?_ | refine T_iinc2 dX4_candidates_80 rfl rfl (by decide) ?_
        refine T_goto 4 dX4_candidates_83 (by decide) ?_
        first | (rw [if_pos (cb1 hb h68)] at hnx; exact hnx s _ _) | (rw [if_neg (cb0 hb h68)] at hnx; rw [or_0]; exact hnx s _ _)
  refine T_iconst (v := nI 0) dX4_candidates_0 rfl ?_
  refine T_istore1 dX4_candidates_1 rfl (by decide) ?_
  refine T_iconst (v := nI 0) dX4_candidates_2 rfl ?_
  refine T_istore2 dX4_candidates_3 rfl (by decide) ?_
  exact hlp (mC m) 0 s none none (by omega)
