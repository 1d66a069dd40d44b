noncomputable def pE (g : Nat → Int32) (len q : Nat) : Nat → Nat
  | 0 => q
  | n + 1 => nE g len (pE g len q n)
noncomputable def vE (g : Nat → Int32) (len q : Nat) (v : Int32) : Nat → Int32
  | 0 => v
  | n + 1 => nV g len (pE g len q n) (vE g len q v n)
theorem pE_le (g : Nat → Int32) {len q : Nat} (hq : q ≤ len) : ∀ n, q ≤ pE g len q n ∧ pE g len q n ≤ len
  | 0 => ⟨Nat.le_refl _, hq⟩
  | n + 1 => by
    have h1 := pE_le g hq n
    have h2 := nE_le g h1.2
    rw [pE]
    omega
theorem NX_r (h : Rg) (len q : Nat) (v x : Int32) (j : Nat) : up2 (NX h len q v) 2 j x = NX (up2 h 2 j x) len q v := by
  unfold NX
  rw [stN_r]
  rfl
theorem NX_i (h : Rg) (len q : Nat) (v x : Int32) : up2 (NX h len q v) 0 16 x = NX (up2 h 0 16 x) len q v := by
  unfold NX
  rw [stN_i]
  rfl
noncomputable def rbS (h : Rg) (len q : Nat) (v : Int32) : Int32 × Nat × Int32 × Rg :=
  if nRb (h 7) len (pE (h 7) len q 1) (vE (h 7) len q v 1) (nI 0) (h 2 0 - nI 1) = 0 then (nI 0, pE (h 7) len q 1, vE (h 7) len q v 1, h)
  else if nRb (h 7) len (pE (h 7) len q 2) (vE (h 7) len q v 2) (nI 0) (nI 99) = 0 then (nI 0, pE (h 7) len q 2, vE (h 7) len q v 2, h)
  else if nRb (h 7) len (pE (h 7) len q 3) (vE (h 7) len q v 3) (nI 0) (nI 9) = 0 then (nI 0, pE (h 7) len q 3, vE (h 7) len q v 3, up2 h 2 (2 + 3 * (vE (h 7) len q v 2).toNatClampNeg) (vE (h 7) len q v 3))
  else if nRb (h 7) len (pE (h 7) len q 4) (vE (h 7) len q v 4) (nI 0) (nI 99) = 0 then (nI 0, pE (h 7) len q 4, vE (h 7) len q v 4, up2 (up2 h 2 (2 + 3 * (vE (h 7) len q v 2).toNatClampNeg) (vE (h 7) len q v 3)) 2 (2 + 3 * (vE (h 7) len q v 2).toNatClampNeg + 1) (vE (h 7) len q v 4))
  else (nI 1, pE (h 7) len q 4, vE (h 7) len q v 4, up2 (up2 (up2 h 2 (2 + 3 * (vE (h 7) len q v 2).toNatClampNeg) (vE (h 7) len q v 3)) 2 (2 + 3 * (vE (h 7) len q v 2).toNatClampNeg + 1) (vE (h 7) len q v 4)) 2 (2 + 3 * (vE (h 7) len q v 2).toNatClampNeg + 2) (vE (h 7) len q v 5))
noncomputable def riS (h : Rg) (len q : Nat) (v b : Int32) : Int32 × Nat × Int32 × Rg :=
  if kc (nK (h 7) len q) = nI 1003 ∧ ¬ b = 0 then (nRb (h 7) len (pE (h 7) len q 1) (vE (h 7) len q v 1) (nI 2) (nI 4), pE (h 7) len q 1, vE (h 7) len q v 1, if nRb (h 7) len (pE (h 7) len q 1) (vE (h 7) len q v 1) (nI 2) (nI 4) = 0 then h else up2 h 2 0 (vE (h 7) len q v 2))
  else if kc (nK (h 7) len q) = nI 1004 then (if (rbS h len q v).1 = 0 then nI 0 else nI 1, (rbS h len q v).2)
  else (nI 0, q, v, h)
/-- what parsing leaves as it was -/
def Sc (h u : Rg) : Prop := (∀ k, ¬ k = 0 → ¬ k = 2 → u k = h k) ∧ ∀ j, ¬ j = 16 → u 0 j = h 0 j
theorem Sc.rfl' (h : Rg) : Sc h h := ⟨fun _ _ _ => rfl, fun _ _ => rfl⟩
theorem Sc.trans {a b c : Rg} (h1 : Sc a b) (h2 : Sc b c) : Sc a c := ⟨fun k x y => (h2.1 k x y).trans (h1.1 k x y), fun j x => (h2.2 j x).trans (h1.2 j x)⟩
theorem Sc_2 {h u : Rg} (s : Sc h u) (j : Nat) (x : Int32) : Sc h (up2 u 2 j x) := s.trans ⟨fun k _ h2 => if_neg h2, fun _ _ => rfl⟩
theorem Sc_i (h : Rg) (x : Int32) : Sc h (up2 h 0 16 x) := ⟨fun k h0 _ => if_neg h0, fun j hj => if_neg hj⟩
theorem rbS_Sc (h : Rg) (len q : Nat) (v : Int32) : Sc h (rbS h len q v).2.2.2 := by
  unfold rbS
  split
  · exact Sc.rfl' h
  · split
    · exact Sc.rfl' h
    · split
      · exact Sc_2 (Sc.rfl' h) _ _
      · split
        · exact Sc_2 (Sc_2 (Sc.rfl' h) _ _) _ _
        · exact Sc_2 (Sc_2 (Sc_2 (Sc.rfl' h) _ _) _ _) _ _
theorem riS_Sc (h : Rg) (len q : Nat) (v b : Int32) : Sc h (riS h len q v b).2.2.2 := by
  unfold riS
  split
  · show Sc h (if _ then _ else _)
    split
    · exact Sc.rfl' h
    · exact Sc_2 (Sc.rfl' h) _ _
  · split
    · exact rbS_Sc h len q v
    · exact Sc.rfl' h
theorem rbS_p (h : Rg) {len q : Nat} (hq : q ≤ len) (v : Int32) : q ≤ (rbS h len q v).2.1 ∧ (rbS h len q v).2.1 ≤ len := by
  unfold rbS
  split
  · exact pE_le (h 7) hq 1
  · split
    · exact pE_le (h 7) hq 2
    · split
      · exact pE_le (h 7) hq 3
      · split
        · exact pE_le (h 7) hq 4
        · exact pE_le (h 7) hq 4
theorem riS_p (h : Rg) {len q : Nat} (hq : q ≤ len) (v b : Int32) : q ≤ (riS h len q v b).2.1 ∧ (riS h len q v b).2.1 ≤ len := by
  unfold riS
  split
  · exact pE_le (h 7) hq 1
  · split
    · exact rbS_p h hq v
    · exact ⟨Nat.le_refl _, hq⟩
/-- the copy whose bounds are read -/
theorem nR_c {g : Nat → Int32} {len p : Nat} {v : Int32} {a b : Nat} (ha : a < 2 ^ 31) (hb : b < 2 ^ 31) (h : nR g len p v (nI a) (nI b)) : ∃ c, a ≤ c ∧ c ≤ b ∧ nV g len p v = nI c ∧ (nV g len p v).toNatClampNeg = c := by
  obtain ⟨c, h1, h2, e⟩ := inB_i ha hb h.2
  exact ⟨c, h1, h2, e, by rw [e, nI_clamp (by omega)]⟩
theorem Wm_2 {b : Nat → Int32} (hw : Wm b) {j : Nat} (h0 : ¬ j = 0) (h14 : ¬ j = 14) (x : Int32) : Wm (upd b j x) := hw.congr (upd_ne (fun e => h0 e.symm)) (upd_ne (fun e => h14 e.symm))
theorem Wm_0 {b : Nat → Int32} (hw : Wm b) {c : Nat} (h2 : 2 ≤ c) (h4 : c ≤ 4) : Wm (upd b 0 (nI c)) := by
  have e : mC (upd b 0 (nI c)) = c := by unfold mC; rw [upd_eq, nI_clamp (by omega)]
  refine ⟨by rw [e, upd_eq], by omega, by omega, ?_⟩
  have e2 : upd b 0 (nI c) 14 = b 14 := upd_ne (by decide)
  unfold mW
  rw [e2]
  exact hw.2.2.2
theorem rbS_W (h : Rg) {len q : Nat} (v : Int32) (hw : Wm (h 2)) : Wm ((rbS h len q v).2.2.2 2) := by
  unfold rbS
  split
  · exact hw
  · rename_i h1
    have h1 := nRb_1 h1
    have e : h 2 0 - nI 1 = nI (mC (h 2) - 1) := by rw [hw.1, pk_sub (by have := hw.2.1; omega)]
    rw [e] at h1
    have h4 := hw.2.2.1
    obtain ⟨c, -, hc, -, ec⟩ := nR_c (by decide) (by omega) h1
    have ec : (vE (h 7) len q v 2).toNatClampNeg = c := ec
    rw [ec]
    split
    · exact hw
    · split
      · exact Wm_2 hw (by omega) (by omega) _
      · split
        · exact Wm_2 (Wm_2 hw (by omega) (by omega) _) (by omega) (by omega) _
        · exact Wm_2 (Wm_2 (Wm_2 hw (by omega) (by omega) _) (by omega) (by omega) _) (by omega) (by omega) _
theorem riS_W (h : Rg) {len q : Nat} (v b : Int32) (hw : Wm (h 2)) : Wm ((riS h len q v b).2.2.2 2) := by
  unfold riS
  split
  · show Wm ((if _ then _ else _ : Rg) 2)
    split
    · exact hw
    · rename_i h1
      obtain ⟨c, h2, h4, e, -⟩ := nR_c (by decide) (by decide) (nRb_1 h1)
      have e : vE (h 7) len q v 2 = nI c := e
      rw [e]
      exact Wm_0 hw h2 h4
  · split
    · exact rbS_W h v hw
    · exact hw
noncomputable def mpP (len : Nat) : Nat → Rg → Nat → Int32 → Nat → Int32 × Rg × Nat × Int32
  | 0, h, q, v, _ => (nI 0, h, q, v)
  | f + 1, h, q, v, k =>
    if kc (nK (h 7) len q) = nI 1000 then (-9, h, q, v)
    else if (riS h len q v (fB k)).1 = 0 then (nI (nS ((riS h len q v (fB k)).2.2.2 7) len (riS h len q v (fB k)).2.1), (riS h len q v (fB k)).2.2.2, (riS h len q v (fB k)).2.1, (riS h len q v (fB k)).2.2.1)
    else if kc (nK ((riS h len q v (fB k)).2.2.2 7) len (nE ((riS h len q v (fB k)).2.2.2 7) len (riS h len q v (fB k)).2.1)) = nI 59 then
      mpP len f (up2 (riS h len q v (fB k)).2.2.2 0 16 (nI (k + 1))) (nE ((riS h len q v (fB k)).2.2.2 7) len (nE ((riS h len q v (fB k)).2.2.2 7) len (riS h len q v (fB k)).2.1)) (nV ((riS h len q v (fB k)).2.2.2 7) len (nE ((riS h len q v (fB k)).2.2.2 7) len (riS h len q v (fB k)).2.1) (nV ((riS h len q v (fB k)).2.2.2 7) len (riS h len q v (fB k)).2.1 (riS h len q v (fB k)).2.2.1)) (k + 1)
    else (nI (nS ((riS h len q v (fB k)).2.2.2 7) len (nE ((riS h len q v (fB k)).2.2.2 7) len (riS h len q v (fB k)).2.1)), (riS h len q v (fB k)).2.2.2, nE ((riS h len q v (fB k)).2.2.2 7) len (riS h len q v (fB k)).2.1, nV ((riS h len q v (fB k)).2.2.2 7) len (riS h len q v (fB k)).2.1 (riS h len q v (fB k)).2.2.1)
theorem rbS_0 (h : Rg) (len q : Nat) (v : Int32) : (rbS h len q v).2.2.2 0 = h 0 := by
  unfold rbS
  split
  · rfl
  · split
    · rfl
    · split
      · rfl
      · split <;> rfl
theorem riS_0 (h : Rg) (len q : Nat) (v b : Int32) : (riS h len q v b).2.2.2 0 = h 0 := by
  unfold riS
  split
  · show (if _ then _ else _ : Rg) 0 = _
    split <;> rfl
  · split
    · exact rbS_0 h len q v
    · rfl
theorem stN_0 (h : Rg) (x : Int32) : up2 h 0 9 x = stN h x (h 0 10) (h 0 11) (h 0 12) := (congrArg (fun z => up2 z 0 9 x) (stN_id h).symm).trans (stN_a _ _ _ _ _ _)
noncomputable def teP (h : Rg) (len : Nat) : Int32 × Rg × Nat × Int32 := mpP len 82 (up2 (up1 h 2 (bgS (h 2))) 0 16 (nI 0)) 0 (h 0 12) 0
noncomputable def teN (h : Rg) (len : Nat) : Rg := NX (teP h len).2.1 len (teP h len).2.2.1 (teP h len).2.2.2
theorem mpP_Sc (len : Nat) : ∀ f h q v k, Sc h (mpP len f h q v k).2.1
  | 0, h, q, v, k => Sc.rfl' h
  | f + 1, h, q, v, k => by
    rw [mpP]
    split
    · exact Sc.rfl' h
    · split
      · exact riS_Sc _ _ _ _ _
      · split
        · exact (riS_Sc _ _ _ _ _).trans ((Sc_i _ _).trans (mpP_Sc len f _ _ _ _))
        · exact riS_Sc _ _ _ _ _
theorem mpP_W (len : Nat) : ∀ f h q v k, Wm (h 2) → Wm ((mpP len f h q v k).2.1 2)
  | 0, h, q, v, k, hw => hw
  | f + 1, h, q, v, k, hw => by
    rw [mpP]
    split
    · exact hw
    · split
      · exact riS_W _ _ _ hw
      · split
        · exact mpP_W len f _ _ _ _ (riS_W _ _ _ hw)
        · exact riS_W _ _ _ hw
theorem kc_0 {k : Int32} (h : ¬ kc k = nI 1000) : ¬ k = nI 0 := fun e => h (by rw [e]; rfl)
theorem nE_gt (g : Nat → Int32) {len p : Nat} (hp : p ≤ len) (h : ¬ nK g len p = nI 0) : p < nE g len p ∧ nE g len p ≤ len := by
  have h1 := nS_le g hp
  unfold nK at h
  unfold nE
  split
  · rename_i e; rw [if_pos e] at h; exact absurd rfl h
  · have := tkE_gt g (show nS g len p < len by omega)
    omega
theorem bgL_hi (b : Nat → Int32) {j : Nat} (hj : 14 ≤ j ∨ j = 0) : ∀ n, n ≤ 4 → bgL b n j = b j
  | 0, _ => rfl
  | n + 1, hn => by
    rw [bgL, upd_ne (by omega), upd_ne (by omega), upd_ne (by omega)]
    exact bgL_hi b hj n (by omega)
theorem fillT_at (g : Nat → Int32) (x : Int32) {j : Nat} : ∀ n, j < n → fillT g x n j = x
  | 0, h => absurd h (Nat.not_lt_zero _)
  | n + 1, h => by
    rw [fillT]
    by_cases e : j = n
    · rw [e, upd_eq]
    · rw [upd_ne e]; exact fillT_at g x n (by omega)
theorem bgS_W (g : Nat → Int32) : Wm (bgS g) := by
  have e0 : bgS g 0 = nI 3 := by unfold bgS; rw [bgL_hi _ (Or.inr rfl) 4 (by decide), upd_eq]
  have e14 : bgS g 14 = nI 0 := by unfold bgS; rw [bgL_hi _ (Or.inl (by decide)) 4 (by decide), upd_ne (by decide), fillT_at _ _ _ (by decide)]
  unfold Wm mC mW
  rw [e0, e14]
  decide
theorem NX_k {h : Rg} {len q : Nat} {v : Int32} {k : Nat} (hk : ¬ k = 0) : NX h len q v k = h k := if_neg hk
theorem NX_f0 {h : Rg} {len q : Nat} {v : Int32} {j : Nat} (h1 : j < 9 ∨ 12 < j) : NX h len q v 0 j = h 0 j := by
  unfold NX stN
  show upd (upd (upd (upd (h 0) 9 _) 10 _) 11 _) 12 _ j = _
  rw [upd_ne (by omega), upd_ne (by omega), upd_ne (by omega), upd_ne (by omega)]

theorem NX_eq {h : Rg} {g : Nat → Int32} (e : h 7 = g) {len p : Nat} {v : Int32} : NX h len p v = stN h (nI (nE g len p)) (kc (nK g len p)) (nI (nS g len p)) (nV g len p v) := by
  rw [← e]
  rfl
theorem pE_s (g : Nat → Int32) (len q n : Nat) : nE g len (pE g len q n) = pE g len q (n + 1) := rfl
theorem vE_s (g : Nat → Int32) (len q n : Nat) (v : Int32) : nV g len (pE g len q n) (vE g len q v n) = vE g len q v (n + 1) := rfl
set_option maxHeartbeats 4000000 in
set_option maxRecDepth 100000 in
theorem rb_step {X : Cx} {l : Launch} {σ0 : Hp} {H : Rg} {g : Nat → Int32} {len p c k : Nat} {K S V : Int32} {Q : Option Value → Hp → Prop} (hv4 : Lv X 4 0) (hH : H 7 = g) (hl : H 0 8 = nI len) (hl8 : len ≤ 80) (hp : p ≤ len) (hc : c < 4) (hk : k < 3) (hN : nRb g len p V (nI 0) (nI (if k = 1 then 9 else 99)) = 0 → Q (some (.int (nI 0))) (setR σ0 4 0 (NX H len p V))) (hY : ¬ nRb g len p V (nI 0) (nI (if k = 1 then 9 else 99)) = 0 → T X l yX4_readBounds cX4_readBounds 3 (some .boolean) 4 29 [some (.ref (adr X 4 0 0)), some (.int (nI (2 + 3 * c))), some (.int (nI (k + 1)))] [] (setR σ0 4 0 (NX (up2 H 2 (2 + 3 * c + k) (nV g len p V)) len p V)) Q) : T X l yX4_readBounds cX4_readBounds 3 (some .boolean) 4 29 [some (.ref (adr X 4 0 0)), some (.int (nI (2 + 3 * c))), some (.int (nI k))] [] (setR σ0 4 0 (stN H (nI p) K S V)) Q := by
  subst hH
  refine T_iload_n dX4_readBounds_29 rfl rfl ?_
  refine T_iconst (v := nI 3) dX4_readBounds_30 rfl ?_
  refine T_icmp_ge 74 dX4_readBounds_31 (by decide) (fun h31 => absurd h31 (nI_ge hk (by decide))) (fun h31 => ?_)
  refine T_aload_n dX4_readBounds_34 rfl rfl ?_
  refine T_iconst (v := nI 0) dX4_readBounds_35 rfl ?_
  refine T_iload_n dX4_readBounds_36 rfl rfl ?_
  refine T_iconst (v := nI 1) dX4_readBounds_37 rfl ?_
  refine T_icmp_ne 46 dX4_readBounds_38 (by decide) (fun h38 => ?_) (fun h38 => ?_)
  · rw [if_neg (nIn h38)] at hN hY
    refine T_bipush (v := nI 99) dX4_readBounds_46 (by decide) ?_
    refine T_vi (Rc_of (hv4 0 (by decide)) rfl rfl) (k_X4_readNumber (h := H) hv4 hl hl8 hp) ml_X4_98 im_yX4_readNumber se_RX4_yX4_readNumber ini_RX4 co_yX4_readNumber rfl de_X4_readNumber (by decide) (by decide) rfl (Nat.le_of_ble_eq_true rfl) dX4_readBounds_48 ?_
    refine T_if_ne 56 dX4_readBounds_51 (by decide) (fun h51 => ?_) (fun h51 => ?_)
    · refine T_aload_n dX4_readBounds_56 rfl rfl ?_
      refine T_g4F hv4 1 (by decide) fl_X4_13 rfl dX4_readBounds_57 ?_
      refine T_iload_n dX4_readBounds_60 rfl rfl ?_
      refine T_iload_n dX4_readBounds_61 rfl rfl ?_
      first | refine T_iaddN dX4_readBounds_62 ?_ | refine T_iadd dX4_readBounds_62 ?_
      refine T_aload_n dX4_readBounds_63 rfl rfl ?_
      refine T_g4F (v := .int (nV (H 7) len p V)) hv4 12 (by decide) fl_X4_92 rfl dX4_readBounds_64 ?_
      refine T_iastF (hv4 2 (by decide)) (fun _ => rfl) (n := 127) (by decide) (2 + 3 * c + k) (by omega) rfl dX4_readBounds_67 ?_
      first | refine T_iincN2 dX4_readBounds_68 rfl (by decide) ?_ | refine T_iinc2 dX4_readBounds_68 rfl rfl (by decide) ?_
      refine T_goto 29 dX4_readBounds_71 (by decide) ?_
      rw [NX_r]
      exact hY h51
    · refine T_iconst (v := nI 0) dX4_readBounds_54 rfl ?_
      refine T_zret (ty := .boolean) rfl (by decide) dX4_readBounds_55 ?_
      exact hN h51
  · have hk1 : k = 1 := nIe h38 (by omega) (by decide)
    rw [if_pos hk1] at hN hY
    refine T_bipush (v := nI 9) dX4_readBounds_41 (by decide) ?_
    refine T_goto 48 dX4_readBounds_43 (by decide) ?_
    refine T_vi (Rc_of (hv4 0 (by decide)) rfl rfl) (k_X4_readNumber (h := H) hv4 hl hl8 hp) ml_X4_98 im_yX4_readNumber se_RX4_yX4_readNumber ini_RX4 co_yX4_readNumber rfl de_X4_readNumber (by decide) (by decide) rfl (Nat.le_of_ble_eq_true rfl) dX4_readBounds_48 ?_
    refine T_if_ne 56 dX4_readBounds_51 (by decide) (fun h51 => ?_) (fun h51 => ?_)
    · refine T_aload_n dX4_readBounds_56 rfl rfl ?_
      refine T_g4F hv4 1 (by decide) fl_X4_13 rfl dX4_readBounds_57 ?_
      refine T_iload_n dX4_readBounds_60 rfl rfl ?_
      refine T_iload_n dX4_readBounds_61 rfl rfl ?_
      first | refine T_iaddN dX4_readBounds_62 ?_ | refine T_iadd dX4_readBounds_62 ?_
      refine T_aload_n dX4_readBounds_63 rfl rfl ?_
      refine T_g4F (v := .int (nV (H 7) len p V)) hv4 12 (by decide) fl_X4_92 rfl dX4_readBounds_64 ?_
      refine T_iastF (hv4 2 (by decide)) (fun _ => rfl) (n := 127) (by decide) (2 + 3 * c + k) (by omega) rfl dX4_readBounds_67 ?_
      first | refine T_iincN2 dX4_readBounds_68 rfl (by decide) ?_ | refine T_iinc2 dX4_readBounds_68 rfl rfl (by decide) ?_
      refine T_goto 29 dX4_readBounds_71 (by decide) ?_
      rw [NX_r]
      exact hY h51
    · refine T_iconst (v := nI 0) dX4_readBounds_54 rfl ?_
      refine T_zret (ty := .boolean) rfl (by decide) dX4_readBounds_55 ?_
      exact hN h51
set_option maxHeartbeats 1000000 in
set_option maxRecDepth 100000 in
theorem k_X4_readBounds {X : Cx} {l : Launch} {σ0 : Hp} {h : Rg} {len q : Nat} {v : Int32} (hv4 : Lv X 4 0) (hl : h 0 8 = nI len) (hl8 : len ≤ 80) (hq : q ≤ len) (hw : Wm (h 2)) : Con X l yX4_readBounds cX4_readBounds 3 (some .boolean) 4 [.ref (adr X 4 0 0)] (setR σ0 4 0 (NX h len q v)) (Ex (some (.int (rbS h len q v).1)) (setR σ0 4 0 (NX (rbS h len q v).2.2.2 len (rbS h len q v).2.1 (rbS h len q v).2.2.1))) := by
  refine Con_of [some (.ref (adr X 4 0 0)), none, none] (by decide) rfl (Nat.le_of_ble_eq_true rfl) ?_
  have hC4 := hw.2.2.1
  have hC2 := hw.2.1
  have e5 : h 2 0 - nI 1 = nI (mC (h 2) - 1) := by rw [hw.1, pk_sub (by omega)]
  have key : ¬ nRb (h 7) len (pE (h 7) len q 1) (vE (h 7) len q v 1) (nI 0) (h 2 0 - nI 1) = 0 → T X l yX4_readBounds cX4_readBounds 3 (some .boolean) 4 18 [some (.ref (adr X 4 0 0)), none, none] [] (setR σ0 4 0 (NX h len (pE (h 7) len q 1) (vE (h 7) len q v 1))) (Ex (some (.int (rbS h len q v).1)) (setR σ0 4 0 (NX (rbS h len q v).2.2.2 len (rbS h len q v).2.1 (rbS h len q v).2.2.1))) := by
    intro h13
    have h13a := nRb_1 h13
    rw [e5] at h13a
    obtain ⟨c, -, hc, hcv, hcn⟩ := nR_c (by decide) (by omega) h13a
    have hcn : (vE (h 7) len q v 2).toNatClampNeg = c := hcn
    have hcv : (vE (h 7) len q v 2) = nI c := hcv
    have hS0 : NX h len (pE (h 7) len q 1) (vE (h 7) len q v 1) = stN h (nI (pE (h 7) len q 2)) (kc (nK (h 7) len (pE (h 7) len q 1))) (nI (nS (h 7) len (pE (h 7) len q 1))) (vE (h 7) len q v 2) := by rw [NX_eq (g := h 7) rfl, pE_s, vE_s]
    refine T_iconst (v := nI 2) dX4_readBounds_18 rfl ?_
    refine T_iconst (v := nI 3) dX4_readBounds_19 rfl ?_
    refine T_aload_n dX4_readBounds_20 rfl rfl ?_
    refine T_g4F (v := .int (nI c)) hv4 12 (by decide) fl_X4_92 (congrArg (fun z => some (Value.int z)) hcv) dX4_readBounds_21 ?_
    first | refine T_imulN dX4_readBounds_24 ?_ | refine T_imul dX4_readBounds_24 ?_
    first | refine T_iaddN dX4_readBounds_25 ?_ | refine T_iadd dX4_readBounds_25 ?_
    refine T_istore1 dX4_readBounds_26 rfl (by decide) ?_
    refine T_iconst (v := nI 0) dX4_readBounds_27 rfl ?_
    refine T_istore2 dX4_readBounds_28 rfl (by decide) ?_
    rw [hS0]
    refine rb_step (H := h) (g := h 7) (p := (pE (h 7) len q 2)) (V := (vE (h 7) len q v 2)) (k := 0) hv4 rfl hl hl8 (pE_le (h 7) hq 2).2 (by omega) (by decide) (fun g0 => ?_) (fun g0 => ?_)
    · have g0 : nRb (h 7) len (pE (h 7) len q 2) (vE (h 7) len q v 2) (nI 0) (nI 99) = 0 := g0
      refine ⟨?_, ?_⟩ <;> rw [rbS, if_neg h13, if_pos g0]
    have g0 : ¬ nRb (h 7) len (pE (h 7) len q 2) (vE (h 7) len q v 2) (nI 0) (nI 99) = 0 := g0
    rw [Nat.add_zero (2 + 3 * c), vE_s, NX_eq (h := (up2 h 2 (2 + 3 * c) (vE (h 7) len q v 3))) (g := h 7) rfl, pE_s, vE_s]
    refine rb_step (H := (up2 h 2 (2 + 3 * c) (vE (h 7) len q v 3))) (g := h 7) (p := (pE (h 7) len q 3)) (V := (vE (h 7) len q v 3)) (k := 1) hv4 rfl hl hl8 (pE_le (h 7) hq 3).2 (by omega) (by decide) (fun g1 => ?_) (fun g1 => ?_)
    · have g1 : nRb (h 7) len (pE (h 7) len q 3) (vE (h 7) len q v 3) (nI 0) (nI 9) = 0 := g1
      refine ⟨?_, ?_⟩ <;> rw [rbS, if_neg h13, if_neg g0, if_pos g1, hcn]
    have g1 : ¬ nRb (h 7) len (pE (h 7) len q 3) (vE (h 7) len q v 3) (nI 0) (nI 9) = 0 := g1
    rw [vE_s, NX_eq (h := (up2 (up2 h 2 (2 + 3 * c) (vE (h 7) len q v 3)) 2 (2 + 3 * c + 1) (vE (h 7) len q v 4))) (g := h 7) rfl, pE_s, vE_s]
    refine rb_step (H := (up2 (up2 h 2 (2 + 3 * c) (vE (h 7) len q v 3)) 2 (2 + 3 * c + 1) (vE (h 7) len q v 4))) (g := h 7) (p := (pE (h 7) len q 4)) (V := (vE (h 7) len q v 4)) (k := 2) hv4 rfl hl hl8 (pE_le (h 7) hq 4).2 (by omega) (by decide) (fun g2 => ?_) (fun g2 => ?_)
    · have g2 : nRb (h 7) len (pE (h 7) len q 4) (vE (h 7) len q v 4) (nI 0) (nI 99) = 0 := g2
      refine ⟨?_, ?_⟩ <;> rw [rbS, if_neg h13, if_neg g0, if_neg g1, if_pos g2, hcn]
    have g2 : ¬ nRb (h 7) len (pE (h 7) len q 4) (vE (h 7) len q v 4) (nI 0) (nI 99) = 0 := g2
    rw [vE_s]
    refine T_iload_n dX4_readBounds_29 rfl rfl ?_
    refine T_iconst (v := nI 3) dX4_readBounds_30 rfl ?_
    refine T_icmp_ge 74 dX4_readBounds_31 (by decide) (fun h31 => ?_) (fun h31 => absurd (Int32.le_refl _) h31)
    refine T_iconst (v := nI 1) dX4_readBounds_74 rfl ?_
    refine T_zret (ty := .boolean) rfl (by decide) dX4_readBounds_75 ?_
    refine ⟨?_, ?_⟩ <;> rw [rbS, if_neg h13, if_neg g0, if_neg g1, if_neg g2, hcn]
  refine T_aload_n dX4_readBounds_0 rfl rfl ?_
  refine T_iconst (v := nI 0) dX4_readBounds_1 rfl ?_
  refine T_aload_n dX4_readBounds_2 rfl rfl ?_
  refine T_g4F hv4 1 (by decide) fl_X4_13 rfl dX4_readBounds_3 ?_
  refine T_iconst (v := nI 0) dX4_readBounds_6 rfl ?_
  refine T_iald (g := h 2) (by rw [setR_self]; rfl) (hv4 2 (by decide)) rfl (n := 127) (by decide) 0 (by omega) rfl dX4_readBounds_7 ?_
  refine T_iconst (v := nI 1) dX4_readBounds_8 rfl ?_
  refine T_isub dX4_readBounds_9 ?_
  refine T_vi (Rc_of (hv4 0 (by decide)) rfl rfl) (k_X4_readNumber (h := h) (p := (pE (h 7) len q 1)) (v := (vE (h 7) len q v 1)) hv4 hl hl8 (pE_le (h 7) hq 1).2) ml_X4_98 im_yX4_readNumber se_RX4_yX4_readNumber ini_RX4 co_yX4_readNumber rfl de_X4_readNumber (by decide) (by decide) rfl (Nat.le_of_ble_eq_true rfl) dX4_readBounds_10 ?_
  refine T_if_ne 18 dX4_readBounds_13 (by decide) (fun h13 => ?_) (fun h13 => ?_)
  · exact key h13
  · refine T_iconst (v := nI 0) dX4_readBounds_16 rfl ?_
    refine T_zret (ty := .boolean) rfl (by decide) dX4_readBounds_17 ?_
    refine ⟨?_, ?_⟩ <;> rw [rbS, if_pos h13]
theorem nb3 {A B : Prop} (h : B) : ¬ (A ∧ ¬ B) := fun q => q.2 h
set_option maxHeartbeats 4000000 in
set_option maxRecDepth 100000 in
theorem k_X4_readItem {X : Cx} {l : Launch} {σ0 : Hp} {h : Rg} {len q : Nat} {v b : Int32} (hv4 : Lv X 4 0) (hl : h 0 8 = nI len) (hl8 : len ≤ 80) (hq : q ≤ len) (hw : Wm (h 2)) : Con X l yX4_readItem cX4_readItem 3 (some .boolean) 5 [.ref (adr X 4 0 0), .int b] (setR σ0 4 0 (NX h len q v)) (Ex (some (.int (riS h len q v b).1)) (setR σ0 4 0 (NX (riS h len q v b).2.2.2 len (riS h len q v b).2.1 (riS h len q v b).2.2.1))) := by
  refine Con_of [some (.ref (adr X 4 0 0)), some (.int b), none] (by decide) rfl (Nat.le_of_ble_eq_true rfl) ?_
  refine T_aload_n dX4_readItem_0 rfl rfl ?_
  refine T_g4F (v := .int (kc (nK (h 7) len q))) hv4 10 (by decide) fl_X4_78 rfl dX4_readItem_1 ?_
  refine T_sipush (v := nI 1003) dX4_readItem_4 (by decide) ?_
  refine T_icmp_ne 46 dX4_readItem_7 (by decide) (fun h7 => ?_) (fun h7 => ?_)
  · refine T_aload_n dX4_readItem_46 rfl rfl ?_
    refine T_g4F (v := .int (kc (nK (h 7) len q))) hv4 10 (by decide) fl_X4_78 rfl dX4_readItem_47 ?_
    refine T_sipush (v := nI 1004) dX4_readItem_50 (by decide) ?_
    refine T_icmp_ne 67 dX4_readItem_53 (by decide) (fun h53 => ?_) (fun h53 => ?_)
    · refine T_iconst (v := nI 0) dX4_readItem_67 rfl ?_
      refine T_zret (ty := .boolean) rfl (by decide) dX4_readItem_68 ?_
      first | (refine ⟨?_, ?_⟩ <;> rw [riS, if_neg (nb1 h7), if_neg h53]) | (refine ⟨?_, ?_⟩ <;> rw [riS, if_neg (nb1 h7), if_pos h53]; rw [if_pos h60]) | (refine ⟨?_, ?_⟩ <;> rw [riS, if_neg (nb1 h7), if_pos h53]; rw [if_neg h60]) | (refine ⟨?_, ?_⟩ <;> rw [riS, if_neg (nb3 h11), if_neg h53]) | (refine ⟨?_, ?_⟩ <;> rw [riS, if_neg (nb3 h11), if_pos h53]; rw [if_pos h60]) | (refine ⟨?_, ?_⟩ <;> rw [riS, if_neg (nb3 h11), if_pos h53]; rw [if_neg h60])
    · refine T_aload_n dX4_readItem_56 rfl rfl ?_
      refine T_vi (Rc_of (hv4 0 (by decide)) rfl rfl) (k_X4_readBounds hv4 hl hl8 hq hw) ml_X4_102 im_yX4_readBounds se_RX4_yX4_readBounds ini_RX4 co_yX4_readBounds rfl de_X4_readBounds (by decide) (by decide) rfl (Nat.le_of_ble_eq_true rfl) dX4_readItem_57 ?_
      refine T_if_eq 67 dX4_readItem_60 (by decide) (fun h60 => ?_) (fun h60 => ?_)
      · refine T_iconst (v := nI 0) dX4_readItem_67 rfl ?_
        refine T_zret (ty := .boolean) rfl (by decide) dX4_readItem_68 ?_
        first | (refine ⟨?_, ?_⟩ <;> rw [riS, if_neg (nb1 h7), if_neg h53]) | (refine ⟨?_, ?_⟩ <;> rw [riS, if_neg (nb1 h7), if_pos h53]; rw [if_pos h60]) | (refine ⟨?_, ?_⟩ <;> rw [riS, if_neg (nb1 h7), if_pos h53]; rw [if_neg h60]) | (refine ⟨?_, ?_⟩ <;> rw [riS, if_neg (nb3 h11), if_neg h53]) | (refine ⟨?_, ?_⟩ <;> rw [riS, if_neg (nb3 h11), if_pos h53]; rw [if_pos h60]) | (refine ⟨?_, ?_⟩ <;> rw [riS, if_neg (nb3 h11), if_pos h53]; rw [if_neg h60])
      · refine T_iconst (v := nI 1) dX4_readItem_63 rfl ?_
        refine T_goto 68 dX4_readItem_64 (by decide) ?_
        refine T_zret (ty := .boolean) rfl (by decide) dX4_readItem_68 ?_
        first | (refine ⟨?_, ?_⟩ <;> rw [riS, if_neg (nb1 h7), if_neg h53]) | (refine ⟨?_, ?_⟩ <;> rw [riS, if_neg (nb1 h7), if_pos h53]; rw [if_pos h60]) | (refine ⟨?_, ?_⟩ <;> rw [riS, if_neg (nb1 h7), if_pos h53]; rw [if_neg h60]) | (refine ⟨?_, ?_⟩ <;> rw [riS, if_neg (nb3 h11), if_neg h53]) | (refine ⟨?_, ?_⟩ <;> rw [riS, if_neg (nb3 h11), if_pos h53]; rw [if_pos h60]) | (refine ⟨?_, ?_⟩ <;> rw [riS, if_neg (nb3 h11), if_pos h53]; rw [if_neg h60])
  · refine T_iload_n dX4_readItem_10 rfl rfl ?_
    refine T_if_eq 46 dX4_readItem_11 (by decide) (fun h11 => ?_) (fun h11 => ?_)
    · refine T_aload_n dX4_readItem_46 rfl rfl ?_
      refine T_g4F (v := .int (kc (nK (h 7) len q))) hv4 10 (by decide) fl_X4_78 rfl dX4_readItem_47 ?_
      refine T_sipush (v := nI 1004) dX4_readItem_50 (by decide) ?_
      refine T_icmp_ne 67 dX4_readItem_53 (by decide) (fun h53 => ?_) (fun h53 => ?_)
      · refine T_iconst (v := nI 0) dX4_readItem_67 rfl ?_
        refine T_zret (ty := .boolean) rfl (by decide) dX4_readItem_68 ?_
        first | (refine ⟨?_, ?_⟩ <;> rw [riS, if_neg (nb1 h7), if_neg h53]) | (refine ⟨?_, ?_⟩ <;> rw [riS, if_neg (nb1 h7), if_pos h53]; rw [if_pos h60]) | (refine ⟨?_, ?_⟩ <;> rw [riS, if_neg (nb1 h7), if_pos h53]; rw [if_neg h60]) | (refine ⟨?_, ?_⟩ <;> rw [riS, if_neg (nb3 h11), if_neg h53]) | (refine ⟨?_, ?_⟩ <;> rw [riS, if_neg (nb3 h11), if_pos h53]; rw [if_pos h60]) | (refine ⟨?_, ?_⟩ <;> rw [riS, if_neg (nb3 h11), if_pos h53]; rw [if_neg h60])
      · refine T_aload_n dX4_readItem_56 rfl rfl ?_
        refine T_vi (Rc_of (hv4 0 (by decide)) rfl rfl) (k_X4_readBounds hv4 hl hl8 hq hw) ml_X4_102 im_yX4_readBounds se_RX4_yX4_readBounds ini_RX4 co_yX4_readBounds rfl de_X4_readBounds (by decide) (by decide) rfl (Nat.le_of_ble_eq_true rfl) dX4_readItem_57 ?_
        refine T_if_eq 67 dX4_readItem_60 (by decide) (fun h60 => ?_) (fun h60 => ?_)
        · refine T_iconst (v := nI 0) dX4_readItem_67 rfl ?_
          refine T_zret (ty := .boolean) rfl (by decide) dX4_readItem_68 ?_
          first | (refine ⟨?_, ?_⟩ <;> rw [riS, if_neg (nb1 h7), if_neg h53]) | (refine ⟨?_, ?_⟩ <;> rw [riS, if_neg (nb1 h7), if_pos h53]; rw [if_pos h60]) | (refine ⟨?_, ?_⟩ <;> rw [riS, if_neg (nb1 h7), if_pos h53]; rw [if_neg h60]) | (refine ⟨?_, ?_⟩ <;> rw [riS, if_neg (nb3 h11), if_neg h53]) | (refine ⟨?_, ?_⟩ <;> rw [riS, if_neg (nb3 h11), if_pos h53]; rw [if_pos h60]) | (refine ⟨?_, ?_⟩ <;> rw [riS, if_neg (nb3 h11), if_pos h53]; rw [if_neg h60])
        · refine T_iconst (v := nI 1) dX4_readItem_63 rfl ?_
          refine T_goto 68 dX4_readItem_64 (by decide) ?_
          refine T_zret (ty := .boolean) rfl (by decide) dX4_readItem_68 ?_
          first | (refine ⟨?_, ?_⟩ <;> rw [riS, if_neg (nb1 h7), if_neg h53]) | (refine ⟨?_, ?_⟩ <;> rw [riS, if_neg (nb1 h7), if_pos h53]; rw [if_pos h60]) | (refine ⟨?_, ?_⟩ <;> rw [riS, if_neg (nb1 h7), if_pos h53]; rw [if_neg h60]) | (refine ⟨?_, ?_⟩ <;> rw [riS, if_neg (nb3 h11), if_neg h53]) | (refine ⟨?_, ?_⟩ <;> rw [riS, if_neg (nb3 h11), if_pos h53]; rw [if_pos h60]) | (refine ⟨?_, ?_⟩ <;> rw [riS, if_neg (nb3 h11), if_pos h53]; rw [if_neg h60])
    · refine T_aload_n dX4_readItem_14 rfl rfl ?_
      refine T_iconst (v := nI 2) dX4_readItem_15 rfl ?_
      refine T_iconst (v := nI 4) dX4_readItem_16 rfl ?_
      refine T_vi (Rc_of (hv4 0 (by decide)) rfl rfl) (k_X4_readNumber (lo := nI 2) (hi := nI 4) (h := h) (p := (pE (h 7) len q 1)) (v := (vE (h 7) len q v 1)) hv4 hl hl8 (pE_le (h 7) hq 1).2) ml_X4_98 im_yX4_readNumber se_RX4_yX4_readNumber ini_RX4 co_yX4_readNumber rfl de_X4_readNumber (by decide) (by decide) rfl (Nat.le_of_ble_eq_true rfl) dX4_readItem_17 ?_
      refine T_istore2 dX4_readItem_20 rfl (by decide) ?_
      refine T_aload_n dX4_readItem_21 rfl rfl ?_
      refine T_g4F hv4 1 (by decide) fl_X4_13 rfl dX4_readItem_22 ?_
      refine T_iconst (v := nI 0) dX4_readItem_25 rfl ?_
      refine T_iload_n dX4_readItem_26 rfl rfl ?_
      refine T_if_eq 37 dX4_readItem_27 (by decide) (fun h27 => ?_) (fun h27 => ?_)
      · refine T_aload_n dX4_readItem_37 rfl rfl ?_
        refine T_g4F hv4 1 (by decide) fl_X4_13 rfl dX4_readItem_38 ?_
        refine T_iconst (v := nI 0) dX4_readItem_41 rfl ?_
        refine T_iald (g := h 2) (by rw [setR_self]; rfl) (hv4 2 (by decide)) rfl (n := 127) (by decide) 0 (by omega) rfl dX4_readItem_42 ?_
        refine T_iastF (hv4 2 (by decide)) (fun _ => rfl) (n := 127) (by decide) 0 (by omega) rfl dX4_readItem_43 ?_
        refine T_iload_n dX4_readItem_44 rfl rfl ?_
        refine T_zret (ty := .boolean) rfl (nar_if _ _) dX4_readItem_45 ?_
        refine ⟨?_, ?_⟩ <;> rw [riS, if_pos (And.intro h7 h11)]
        rw [NX_r]
        first | (rw [if_neg h27]) | (rw [if_pos h27, show up2 h 2 0 (h 2 0) = h from up2_id h 2 0])
      · refine T_aload_n dX4_readItem_30 rfl rfl ?_
        refine T_g4F (v := .int ((vE (h 7) len q v 2))) hv4 12 (by decide) fl_X4_92 rfl dX4_readItem_31 ?_
        refine T_goto 43 dX4_readItem_34 (by decide) ?_
        refine T_iastF (hv4 2 (by decide)) (fun _ => rfl) (n := 127) (by decide) 0 (by omega) rfl dX4_readItem_43 ?_
        refine T_iload_n dX4_readItem_44 rfl rfl ?_
        refine T_zret (ty := .boolean) rfl (nar_if _ _) dX4_readItem_45 ?_
        refine ⟨?_, ?_⟩ <;> rw [riS, if_pos (And.intro h7 h11)]
        rw [NX_r]
        first | (rw [if_neg h27]) | (rw [if_pos h27, show up2 h 2 0 (h 2 0) = h from up2_id h 2 0])
set_option maxHeartbeats 4000000 in
set_option maxRecDepth 100000 in
theorem k_X4_parse {X : Cx} {l : Launch} {σ0 : Hp} {h : Rg} {len : Nat} (hv4 : Lv X 4 0) (hl : h 0 8 = nI len) (hl8 : len ≤ 80) : Con X l yX4_parse cX4_parse 1 (some .int) 6 [.ref (adr X 4 0 0)] (setR σ0 4 0 h) (Ex (some (.int (teP h len).1)) (setR σ0 4 0 (teN h len))) := by
  refine Con_of [some (.ref (adr X 4 0 0))] (by decide) rfl (Nat.le_of_ble_eq_true rfl) ?_
  have hlp : ∀ (f : Nat) (h : Rg) (q : Nat) (v : Int32) (k : Nat) (R : Int32 × Rg × Nat × Int32), h 0 8 = nI len → q ≤ len → Wm (h 2) → h 0 16 = nI k → k ≤ q → len < q + f → R = mpP len f h q v k → T X l yX4_parse cX4_parse 1 (some .int) 6 18 [some (.ref (adr X 4 0 0))] [] (setR σ0 4 0 (NX h len q v)) (Ex (some (.int R.1)) (setR σ0 4 0 (NX R.2.1 len R.2.2.1 R.2.2.2))) := by
    intro f
    induction f with
    | zero => intro h q v k R hl hq hw hi hk hf; omega
    | succ f ih =>
      intro h q v k R hl hq hw hi hk hf hR
      rw [mpP] at hR
      obtain ⟨r, hr⟩ : ∃ r, r = riS h len q v (fB k) := ⟨_, rfl⟩
      rw [← hr] at hR
      have hrp := riS_p h hq v (fB k)
      have hr0 := riS_0 h len q v (fB k)
      have hrw := riS_W h (len := len) (q := q) v (fB k) hw
      rw [← hr] at hrp hr0 hrw
      have hl2 : r.2.2.2 0 8 = nI len := by rw [hr0]; exact hl
      have hi2 : r.2.2.2 0 16 = nI k := by rw [hr0]; exact hi
      have hn1 := nE_le (r.2.2.2 7) hrp.2
      have hn2 := nE_le (r.2.2.2 7) hn1.2
      refine T_aload_n dX4_parse_18 rfl rfl ?_
      refine T_g4F (v := .int (kc (nK (h 7) len q))) hv4 10 (by decide) fl_X4_78 rfl dX4_parse_19 ?_
      refine T_sipush (v := nI 1000) dX4_parse_22 (by decide) ?_
      refine T_icmp_eq 87 dX4_parse_25 (by decide) (fun h25 => ?_) (fun h25 => ?_)
      · refine T_bipush (v := -9) dX4_parse_87 (by decide) ?_
        refine T_iret rfl dX4_parse_89 ?_
        rw [if_pos h25] at hR
        subst hR
        exact ⟨rfl, rfl⟩
      · refine T_aload_n dX4_parse_28 rfl rfl ?_
        refine T_aload_n dX4_parse_29 rfl rfl ?_
        refine T_g4F (v := .int (nI k)) hv4 16 (by decide) fl_X4_105 (congrArg (fun z => some (Value.int z)) hi) dX4_parse_30 ?_
        refine T_if_ne 40 dX4_parse_33 (by decide) (fun h33 => ?_) (fun h33 => ?_)
        · have hk1 : ¬ k = 0 := fun e => h33 (by rw [e]; rfl)
          refine T_iconst (v := fB k) dX4_parse_40 (by unfold fB; rw [if_neg hk1]; rfl) ?_
          refine T_vi (Rc_of (hv4 0 (by decide)) rfl rfl) (k_X4_readItem hv4 hl hl8 hq hw) ml_X4_108 im_yX4_readItem se_RX4_yX4_readItem ini_RX4 co_yX4_readItem rfl de_X4_readItem (by decide) (by decide) rfl (Nat.le_of_ble_eq_true rfl) dX4_parse_41 ?_
          rw [← hr]
          refine T_if_ne 52 dX4_parse_44 (by decide) (fun h44 => ?_) (fun h44 => ?_)
          · refine T_aload_n dX4_parse_52 rfl rfl ?_
            refine T_vv (Rc_of (hv4 0 (by decide)) rfl rfl) (k_X4_next (h := r.2.2.2) hv4 hl2 hl8 hn1.2) ml_X4_95 im_yX4_next se_RX4_yX4_next ini_RX4 co_yX4_next rfl de_X4_next (by decide) (by decide) rfl (Nat.le_of_ble_eq_true rfl) dX4_parse_53 ?_
            refine T_aload_n dX4_parse_56 rfl rfl ?_
            refine T_g4F (v := .int (kc (nK (r.2.2.2 7) len (nE (r.2.2.2 7) len r.2.1)))) hv4 10 (by decide) fl_X4_78 rfl dX4_parse_57 ?_
            refine T_bipush (v := nI 59) dX4_parse_60 (by decide) ?_
            refine T_icmp_eq 70 dX4_parse_62 (by decide) (fun h62 => ?_) (fun h62 => ?_)
            · refine T_aload_n dX4_parse_70 rfl rfl ?_
              refine T_dup dX4_parse_71 rfl ?_
              refine T_g4F (v := .int (nI k)) hv4 16 (by decide) fl_X4_105 (congrArg (fun z => some (Value.int z)) hi2) dX4_parse_72 ?_
              refine T_iconst (v := nI 1) dX4_parse_75 rfl ?_
              first | refine T_iaddN dX4_parse_76 ?_ | refine T_iadd dX4_parse_76 ?_
              refine T_p4F hv4 16 (by decide) rfl rfl fl_X4_105 (by decide) rfl dX4_parse_77 ?_
              rw [NX_i]
              refine T_aload_n dX4_parse_80 rfl rfl ?_
              refine T_vv (Rc_of (hv4 0 (by decide)) rfl rfl) (k_X4_next (h := up2 r.2.2.2 0 16 (nI (k + 1))) hv4 hl2 hl8 hn2.2) ml_X4_95 im_yX4_next se_RX4_yX4_next ini_RX4 co_yX4_next rfl de_X4_next (by decide) (by decide) rfl (Nat.le_of_ble_eq_true rfl) dX4_parse_81 ?_
              refine T_goto 18 dX4_parse_84 (by decide) ?_
              rw [if_neg h25, if_neg h44, if_pos h62] at hR
              have hgt := nE_gt (r.2.2.2 7) hn1.2 (fun e => absurd h62 (by rw [e]; decide))
              have hk2 : k + 1 ≤ nE (r.2.2.2 7) len (nE (r.2.2.2 7) len r.2.1) := by omega
              have hf2 : len < nE (r.2.2.2 7) len (nE (r.2.2.2 7) len r.2.1) + f := by omega
              exact ih _ _ _ _ R hl2 hn2.2 hrw rfl hk2 hf2 hR
            · refine T_aload_n dX4_parse_65 rfl rfl ?_
              refine T_g4F (v := .int (nI (nS (r.2.2.2 7) len (nE (r.2.2.2 7) len r.2.1)))) hv4 11 (by decide) fl_X4_67 rfl dX4_parse_66 ?_
              refine T_iret rfl dX4_parse_69 ?_
              rw [if_neg h25, if_neg h44, if_neg h62] at hR
              subst hR
              exact ⟨rfl, rfl⟩
          · refine T_aload_n dX4_parse_47 rfl rfl ?_
            refine T_g4F (v := .int (nI (nS (r.2.2.2 7) len r.2.1))) hv4 11 (by decide) fl_X4_67 rfl dX4_parse_48 ?_
            refine T_iret rfl dX4_parse_51 ?_
            rw [if_neg h25, if_pos h44] at hR
            subst hR
            exact ⟨rfl, rfl⟩
        · have hk0 : k = 0 := nIe (b := 0) h33 (by omega) (by decide)
          refine T_iconst (v := fB k) dX4_parse_36 (by unfold fB; rw [if_pos hk0]; rfl) ?_
          refine T_goto 41 dX4_parse_37 (by decide) ?_
          refine T_vi (Rc_of (hv4 0 (by decide)) rfl rfl) (k_X4_readItem hv4 hl hl8 hq hw) ml_X4_108 im_yX4_readItem se_RX4_yX4_readItem ini_RX4 co_yX4_readItem rfl de_X4_readItem (by decide) (by decide) rfl (Nat.le_of_ble_eq_true rfl) dX4_parse_41 ?_
          rw [← hr]
          refine T_if_ne 52 dX4_parse_44 (by decide) (fun h44 => ?_) (fun h44 => ?_)
          · refine T_aload_n dX4_parse_52 rfl rfl ?_
            refine T_vv (Rc_of (hv4 0 (by decide)) rfl rfl) (k_X4_next (h := r.2.2.2) hv4 hl2 hl8 hn1.2) ml_X4_95 im_yX4_next se_RX4_yX4_next ini_RX4 co_yX4_next rfl de_X4_next (by decide) (by decide) rfl (Nat.le_of_ble_eq_true rfl) dX4_parse_53 ?_
            refine T_aload_n dX4_parse_56 rfl rfl ?_
            refine T_g4F (v := .int (kc (nK (r.2.2.2 7) len (nE (r.2.2.2 7) len r.2.1)))) hv4 10 (by decide) fl_X4_78 rfl dX4_parse_57 ?_
            refine T_bipush (v := nI 59) dX4_parse_60 (by decide) ?_
            refine T_icmp_eq 70 dX4_parse_62 (by decide) (fun h62 => ?_) (fun h62 => ?_)
            · refine T_aload_n dX4_parse_70 rfl rfl ?_
              refine T_dup dX4_parse_71 rfl ?_
              refine T_g4F (v := .int (nI k)) hv4 16 (by decide) fl_X4_105 (congrArg (fun z => some (Value.int z)) hi2) dX4_parse_72 ?_
              refine T_iconst (v := nI 1) dX4_parse_75 rfl ?_
              first | refine T_iaddN dX4_parse_76 ?_ | refine T_iadd dX4_parse_76 ?_
              refine T_p4F hv4 16 (by decide) rfl rfl fl_X4_105 (by decide) rfl dX4_parse_77 ?_
              rw [NX_i]
              refine T_aload_n dX4_parse_80 rfl rfl ?_
              refine T_vv (Rc_of (hv4 0 (by decide)) rfl rfl) (k_X4_next (h := up2 r.2.2.2 0 16 (nI (k + 1))) hv4 hl2 hl8 hn2.2) ml_X4_95 im_yX4_next se_RX4_yX4_next ini_RX4 co_yX4_next rfl de_X4_next (by decide) (by decide) rfl (Nat.le_of_ble_eq_true rfl) dX4_parse_81 ?_
              refine T_goto 18 dX4_parse_84 (by decide) ?_
              rw [if_neg h25, if_neg h44, if_pos h62] at hR
              have hgt := nE_gt (r.2.2.2 7) hn1.2 (fun e => absurd h62 (by rw [e]; decide))
              have hk2 : k + 1 ≤ nE (r.2.2.2 7) len (nE (r.2.2.2 7) len r.2.1) := by omega
              have hf2 : len < nE (r.2.2.2 7) len (nE (r.2.2.2 7) len r.2.1) + f := by omega
              exact ih _ _ _ _ R hl2 hn2.2 hrw rfl hk2 hf2 hR
            · refine T_aload_n dX4_parse_65 rfl rfl ?_
              refine T_g4F (v := .int (nI (nS (r.2.2.2 7) len (nE (r.2.2.2 7) len r.2.1)))) hv4 11 (by decide) fl_X4_67 rfl dX4_parse_66 ?_
              refine T_iret rfl dX4_parse_69 ?_
              rw [if_neg h25, if_neg h44, if_neg h62] at hR
              subst hR
              exact ⟨rfl, rfl⟩
          · refine T_aload_n dX4_parse_47 rfl rfl ?_
            refine T_g4F (v := .int (nI (nS (r.2.2.2 7) len r.2.1))) hv4 11 (by decide) fl_X4_67 rfl dX4_parse_48 ?_
            refine T_iret rfl dX4_parse_51 ?_
            rw [if_neg h25, if_pos h44] at hR
            subst hR
            exact ⟨rfl, rfl⟩
  refine T_aload_n dX4_parse_0 rfl rfl ?_
  refine T_vv (Rc_of (hv4 0 (by decide)) rfl rfl) (k_X4_beginRead hv4) ml_X4_38 im_yX4_beginRead se_RX4_yX4_beginRead ini_RX4 co_yX4_beginRead rfl de_X4_beginRead (by decide) (by decide) rfl (Nat.le_of_ble_eq_true rfl) dX4_parse_1 ?_
  refine T_aload_n dX4_parse_4 rfl rfl ?_
  refine T_iconst (v := nI 0) dX4_parse_5 rfl ?_
  refine T_p4F hv4 16 (by decide) rfl rfl fl_X4_105 (by decide) rfl dX4_parse_6 ?_
  refine T_aload_n dX4_parse_9 rfl rfl ?_
  refine T_iconst (v := nI 0) dX4_parse_10 rfl ?_
  refine T_p4F hv4 9 (by decide) rfl rfl fl_X4_57 (by decide) rfl dX4_parse_11 ?_
  rw [stN_0 (up2 (up1 h 2 (bgS (h 2))) 0 16 (nI 0)) (nI 0)]
  refine T_aload_n dX4_parse_14 rfl rfl ?_
  refine T_vv (Rc_of (hv4 0 (by decide)) rfl rfl) (k_X4_next (h := (up2 (up1 h 2 (bgS (h 2))) 0 16 (nI 0))) hv4 hl hl8 (Nat.zero_le _)) ml_X4_95 im_yX4_next se_RX4_yX4_next ini_RX4 co_yX4_next rfl de_X4_next (by decide) (by decide) rfl (Nat.le_of_ble_eq_true rfl) dX4_parse_15 ?_
  exact hlp 82 (up2 (up1 h 2 (bgS (h 2))) 0 16 (nI 0)) 0 _ 0 (teP h len) hl (Nat.zero_le _) (bgS_W (h 2)) rfl (Nat.le_refl _) (by omega) rfl
theorem teP_Sc (h : Rg) (len : Nat) : Sc h (teP h len).2.1 := by
  have h1 := mpP_Sc len 82 (up2 (up1 h 2 (bgS (h 2))) 0 16 (nI 0)) 0 (h 0 12) 0
  refine Sc.trans ?_ h1
  refine Sc.trans ?_ (Sc_i _ _)
  exact ⟨fun k _ h2 => if_neg h2, fun _ _ => rfl⟩
theorem teP_W (h : Rg) (len : Nat) : Wm ((teP h len).2.1 2) := mpP_W len 82 _ 0 _ 0 (bgS_W (h 2))
theorem teN_k {h : Rg} {len k : Nat} (h0 : ¬ k = 0) (h2 : ¬ k = 2) : teN h len k = h k := by
  unfold teN
  rw [NX_k h0, (teP_Sc h len).1 k h0 h2]
theorem teN_0 {h : Rg} {len j : Nat} (h1 : j < 9 ∨ 12 < j) (h2 : ¬ j = 16) : teN h len 0 j = h 0 j := by
  unfold teN
  rw [NX_f0 h1, (teP_Sc h len).2 j h2]
theorem teN_2 (h : Rg) (len : Nat) : teN h len 2 = (teP h len).2.1 2 := NX_k (by decide)
theorem up1_fix {h : Rg} {k : Nat} {g : Nat → Int32} (e : h k = g) : h = up1 h k g := by rw [← e, up1_id]
set_option maxHeartbeats 4000000 in
set_option maxRecDepth 100000 in
theorem k_X4_tells {X : Cx} {l : Launch} {σ0 : Hp} {h : Rg} {m : Nat → Int32} {Q : Option Value → Hp → Prop} {n len : Nat} (hv4 : Lv X 4 0) (hn : h 0 4 = nI n) (hn8 : n ≤ 8) (hl : h 0 8 = nI len) (hl8 : len ≤ 80) (hF : ¬ (teP (up1 h 1 m) len).1 = -9 → Q (some (.int (-10 - (teP (up1 h 1 m) len).1))) (setR σ0 4 0 (teN (up1 h 1 m) len))) (hO : (teP (up1 h 1 m) len).1 = -9 → Q (some (.int ((teN (up1 h 1 m) len) 0 16))) (setR σ0 4 0 (up2 (up1 (up1 (up1 (svR (teN (up1 h 1 m) len) m n) 1 m) 2 (sbA ((teN (up1 h 1 m) len) 2) (mC ((teN (up1 h 1 m) len) 2)))) 1 (va_cpy (sbA ((teN (up1 h 1 m) len) 2) (mC ((teN (up1 h 1 m) len) 2))) m 0 0 127)) 0 8 (nI 0)))) : Con X l yX4_tells cX4_tells 2 (some .int) 7 [.ref (adr X 4 0 0)] (setR σ0 4 0 (up1 h 1 m)) Q := by
  refine Con_of [some (.ref (adr X 4 0 0)), none] (by decide) rfl (Nat.le_of_ble_eq_true rfl) ?_
  have e1 : (teN (up1 h 1 m) len) = up1 (teN (up1 h 1 m) len) 1 m := up1_fix ((teN_k (by decide) (by decide)).trans (up1_same h 1 m))
  have e2 : (up1 (svR (teN (up1 h 1 m) len) m n) 1 m) = up1 (up1 (svR (teN (up1 h 1 m) len) m n) 1 m) 2 ((teN (up1 h 1 m) len) 2) := up1_fix rfl
  have hw2 : Wm ((teN (up1 h 1 m) len) 2) := by rw [teN_2]; exact teP_W _ _
  have hn4 : (teN (up1 h 1 m) len) 0 4 = nI n := by rw [teN_0 (by decide) (by decide)]; exact hn
  have hl1 : (up1 h 1 m) 0 8 = nI len := hl
  refine T_aload_n dX4_tells_0 rfl rfl ?_
  refine T_vi (Rc_of (hv4 0 (by decide)) rfl rfl) (k_X4_parse (h := (up1 h 1 m)) hv4 hl1 hl8) ml_X4_112 im_yX4_parse se_RX4_yX4_parse ini_RX4 co_yX4_parse rfl de_X4_parse (by decide) (by decide) rfl (Nat.le_of_ble_eq_true rfl) dX4_tells_1 ?_
  refine T_istore1 dX4_tells_4 rfl (by decide) ?_
  refine T_iload_n dX4_tells_5 rfl rfl ?_
  refine T_bipush (v := -9) dX4_tells_6 (by decide) ?_
  refine T_icmp_eq 16 dX4_tells_8 (by decide) (fun h8 => ?_) (fun h8 => ?_)
  · rw [e1]
    refine T_aload_n dX4_tells_16 rfl rfl ?_
    refine T_vv (Rc_of (hv4 0 (by decide)) rfl rfl) (k_X4_save (h := (teN (up1 h 1 m) len)) hv4 hn4 hn8) ml_X4_115 im_yX4_save se_RX4_yX4_save ini_RX4 co_yX4_save rfl de_X4_save (by decide) (by decide) rfl (Nat.le_of_ble_eq_true rfl) dX4_tells_17 ?_
    rw [e2]
    refine T_aload_n dX4_tells_20 rfl rfl ?_
    refine T_g4F hv4 1 (by decide) fl_X4_13 rfl dX4_tells_21 ?_
    refine T_sv (k_X4_setBudgets (h := (up1 (svR (teN (up1 h 1 m) len) m n) 1 m)) (hv4 2 (by decide)) (fun _ => rfl) hw2) ml_X4_41 sm_yX4_setBudgets ini_RX4 co_yX4_setBudgets de_X4_setBudgets (by decide) (by decide) rfl (Nat.le_of_ble_eq_true rfl) dX4_tells_24 ?_
    refine T_aload_n dX4_tells_27 rfl rfl ?_
    refine T_g4F hv4 1 (by decide) fl_X4_13 rfl dX4_tells_28 ?_
    refine T_iconst (v := nI 0) dX4_tells_31 rfl ?_
    refine T_aload_n dX4_tells_32 rfl rfl ?_
    refine T_g4F hv4 0 (by decide) fl_X4_7 rfl dX4_tells_33 ?_
    refine T_iconst (v := nI 0) dX4_tells_36 rfl ?_
    refine T_sv (k_X4_copyState (hv4 2 (by decide)) (hv4 1 (by decide)) (fun _ => rfl) (fun _ => rfl) (by decide) (by omega) (by omega) (by decide) (by decide)) ml_X4_45 sm_yX4_copyState ini_RX4 co_yX4_copyState de_X4_copyState (by decide) (by decide) rfl (Nat.le_of_ble_eq_true rfl) dX4_tells_37 ?_
    refine T_aload_n dX4_tells_40 rfl rfl ?_
    refine T_iconst (v := nI 0) dX4_tells_41 rfl ?_
    refine T_p4F hv4 8 (by decide) rfl rfl fl_X4_60 (by decide) rfl dX4_tells_42 ?_
    refine T_aload_n dX4_tells_45 rfl rfl ?_
    refine T_g4F hv4 16 (by decide) fl_X4_105 rfl dX4_tells_46 ?_
    refine T_iret rfl dX4_tells_49 ?_
    exact hO h8
  · refine T_bipush (v := -10) dX4_tells_11 (by decide) ?_
    refine T_iload_n dX4_tells_13 rfl rfl ?_
    refine T_isub dX4_tells_14 ?_
    refine T_iret rfl dX4_tells_15 ?_
    exact hF h8
