/-! ===== what is asked, in both ===== -/
theorem left_n {h : Rg} {m : Nat → Int32} (H : GD h m) {a c : Nat} (ha : a < nC h) (hc : c < nC h) (hac : ¬ c = a) : ∃ x, x ≤ 99 ∧ leftS h c a = nI x ∧ mLf m c a = nI x := by
  obtain ⟨R, J, V, hW, hN, hB⟩ := H
  obtain ⟨b, hb, eb, ho⟩ := (hB a ha).1 c hc hac
  have ho := ho trivial
  have e : leftS h c a = nI (b - ow h c a) := by rw [left_b R.1 hW eb, pk_sub ho]
  exact ⟨b - ow h c a, by omega, e, by rw [RL_lf R ha hc (fun z => hac z.symm), e]⟩
theorem spare_eq {h : Rg} {m : Nat → Int32} (H : GD h m) {c : Nat} (hc : c < nC h) : ∀ n, n ≤ nC h → (mSp m c n = -9 ∧ spareS h c n = nI 99 ∧ ∀ a, a < n → a = c) ∨ ∃ x, x ≤ 99 ∧ mSp m c n = nI x ∧ spareS h c n = nI x
  | 0, _ => Or.inl ⟨rfl, rfl, fun a ha => absurd ha (Nat.not_lt_zero _)⟩
  | n + 1, hn => by
    have ih := spare_eq H hc n (by omega)
    rw [mSp, spareS]
    by_cases q : n = c
    · rw [if_pos q, if_pos q]
      rcases ih with ⟨h1, h2, h3⟩ | ih
      · exact Or.inl ⟨h1, h2, fun a ha => by
          by_cases e : a = n
          · rw [e]; exact q
          · exact h3 a (by omega)⟩
      · exact Or.inr ih
    · rw [if_neg q, if_neg q]
      obtain ⟨x, hx, e1, e2⟩ := left_n H (a := n) (c := c) (by omega) hc (fun z => q z.symm)
      rw [e1, e2]
      rcases ih with ⟨h1, h2, h3⟩ | ⟨y, hy, h1, h2⟩
      · rw [h1, h2, if_pos rfl]
        refine Or.inr ⟨x, hx, rfl, ?_⟩
        by_cases z : nI x < nI 99
        · rw [if_pos z]
        · rw [if_neg z]
          have : ¬ x < 99 := fun s => z ((nI_ltI (by omega) (by omega)).mpr s)
          rw [show x = 99 by omega]
      · have hne : ¬ nI y = -9 := fun s => by
          have := nI_pos (n := y) (by omega)
          rw [s] at this
          exact this (by decide)
        rw [h1, h2, if_neg hne]
        by_cases z : nI y ≤ nI x
        · rw [if_pos z, if_neg (Int32.not_lt.mpr z)]
          exact Or.inr ⟨y, hy, rfl, rfl⟩
        · rw [if_neg z, if_pos (Int32.not_le.mp z)]
          exact Or.inr ⟨x, hx, rfl, rfl⟩
theorem m1_gb {i : Nat} (hi : i < 32) : gb (-1) i = true := by
  have e : (-1 : Int32) = nI 0 ^^^ -1 := by decide
  rw [e, not_gb _ hi, zero_gb]
  rfl
theorem allS_gb {h : Rg} (hf : Wf h) {i : Nat} (hi : i < 32) : gb (allS h) i = decide (i < nW h) := by
  unfold allS
  rw [hf.2.2.2.1]
  exact all_gb (nW h) hf.2.2.2.2 i hi
theorem lack_eq {h : Rg} {m : Nat → Int32} (R : Rlm h m) {i : Nat} (hi : i < 4) : wSum (h 10) (allS h &&& (h 4 i ^^^ -1)) (nW h) = wSum (mwt m) (m (87 + i) ^^^ -1) (mW m) := by
  have h24 := R.1.2.2.2.2
  rw [RL_sum R, RL_k R hi]
  refine wSum_ext _ R.1.2.2.2.2 (fun _ _ => rfl) (fun j hj => ?_)
  rw [and_gb, allS_gb R.1 (by omega), decide_eq_true hj, Bool.true_and]
theorem cn3_eq {h : Rg} {m : Nat → Int32} (R : Rlm h m) : wSum (h 10) (allS h) (nW h) = wSum (mwt m) (-1) (mW m) := by
  have h24 := R.1.2.2.2.2
  rw [RL_sum R]
  refine wSum_ext _ R.1.2.2.2.2 (fun _ _ => rfl) (fun j hj => ?_)
  rw [allS_gb R.1 (by omega), decide_eq_true hj, m1_gb (by omega)]
theorem cn4_eq {h : Rg} {m : Nat → Int32} (R : Rlm h m) (V : KV h) : ∀ n, n ≤ nC h → withS (h 4) (allS h) n = fuM m n
  | 0, _ => rfl
  | n + 1, hn => by
    have h4 := R.1.2.2.1
    have ih := cn4_eq R V n (by omega)
    have ea : (nI 1 <<< (m 14 &&& 31)) - nI 1 = allS h := by unfold allS; rw [RL_14 R]
    rw [withS, fuM, ih, RL_k R (show n < 4 by omega), ea]
    have e : (h 4 n &&& allS h = allS h) ↔ h 4 n = allS h := by
      constructor
      · intro q
        apply gb_ext
        intro i hi
        have q1 := congrArg (fun z => gb z i) q
        simp only [and_gb] at q1
        by_cases hl : i < nW h
        · rw [allS_gb R.1 hi, decide_eq_true hl, Bool.and_true] at q1
          rw [q1, allS_gb R.1 hi, decide_eq_true hl]
        · rw [V n (by omega) i hi (by omega), allS_gb R.1 hi, decide_eq_false hl]
      · intro q
        rw [q, Int32.and_self]
    by_cases q : h 4 n = allS h
    · rw [if_pos q, if_pos (e.mpr q)]
    · rw [if_neg q, if_neg (fun z => q (e.mp z))]
theorem cp_eq {h : Rg} {m : Nat → Int32} (H : GD h m) {i : Nat} (hi : i < nC h) : ∀ k, k < 10 → cpS h i k = mCp m i k := by
  have R := H.1
  have h4 := R.1.2.2.1
  have hi4 : i < 4 := by omega
  intro k hk
  match k, hk with
  | 0, _ => exact (RL_b R hi4).1.symm
  | 1, _ => exact (RL_b R hi4).2.1.symm
  | 2, _ => exact (RL_b R hi4).2.2.symm
  | 3, _ => exact (RL_k R hi4).symm
  | 4, _ => exact (RL_f R hi4).symm
  | 5, _ =>
    show wSum (h 10) (h 4 i) (nW h) = wSum (mwt m) (m (87 + i)) (mW m)
    rw [RL_sum R, RL_k R hi4]
  | 6, _ => exact lack_eq R hi4
  | 7, _ => exact (RL_slow R H.2.2.1 hi4).symm
  | 8, _ =>
    show nI (readS h i).2 = nI (mRd m i).2
    rw [(GD_read H hi4).2]
  | 9, _ =>
    show spareS h i (nC h) = mSp m i (mC m)
    rw [RL_C R]
    rcases spare_eq H hi (nC h) (Nat.le_refl _) with ⟨-, -, h3⟩ | ⟨x, -, h1, h2⟩
    · have a0 := h3 0 (by omega)
      have a1 := h3 1 (by have := R.1.2.1; omega)
      omega
    · rw [h1, h2]
theorem pr_eq {h : Rg} {m : Nat → Int32} (H : GD h m) {i j : Nat} (hi : i < nC h) (hj : j < nC h) (hij : ¬ i = j) : ∀ k, k < 4 → prsS h i j k = mPr m i j k := by
  have R := H.1
  have h4 := R.1.2.2.1
  intro k hk
  match k, hk with
  | 0, _ => exact (RL_h R (by omega) (by omega)).symm
  | 1, _ => exact (RL_g R hi hj hij).symm
  | 2, _ => exact (RL_ow R j (by omega)).symm
  | 3, _ => exact (RL_lf R hi hj hij).symm
theorem wr_eq {h : Rg} {m : Nat → Int32} (H : GD h m) {i : Nat} (hi : i < nW h) : ∀ k, k < 5 → wrS h i k = mWr m i k := by
  have R := H.1
  have h4 := R.1.2.2.1
  have h24 := R.1.2.2.2.2
  intro k hk
  match k, hk with
  | 0, _ => exact (RL_w R hi).1.symm
  | 1, _ => exact (RL_w R hi).2.1.symm
  | 2, _ => exact (RL_w R hi).2.2.symm
  | 3, _ =>
    show withS (h 4) (nI 1 <<< (nI i &&& 31)) (nC h) = hoS m 87 (nI i) (mC m)
    rw [RL_C R, ← with_ho m 87 (by omega) (nC h) h4]
    exact withS_ext _ (fun j hj => (RL_k R (by omega)).symm)
  | 4, _ =>
    show withS (h 5) (nI 1 <<< (nI i &&& 31)) (nC h) = hoS m 91 (nI i) (mC m)
    rw [RL_C R, ← with_ho m 91 (by omega) (nC h) h4]
    exact withS_ext _ (fun j hj => (RL_f R (by omega)).symm)
theorem pf_eq {h : Rg} {m : Nat → Int32} (H : GD h m) {c : Nat} (hc : c < nC h) (w : Int32) : ∀ n, n ≤ nC h → pforS h c w n = pfM m c w n
  | 0, _ => rfl
  | n + 1, hn => by
    rw [pforS, pfM, pf_eq H hc w n (by omega)]
    by_cases q : n = c
    · rw [if_pos q, if_pos q]
    · rw [if_neg q, if_neg q, RL_lf H.1 (by omega) hc q]
theorem an_eq {h : Rg} {m : Nat → Int32} (H : GD h m) {c k : Nat} (hc : c < 4) (hk : k < 3) : ansS h c (nI k) = prM m c (nI k) := by
  have R := H.1
  unfold ansS prM
  match k, hk with
  | 0, _ => rw [if_pos rfl, if_pos (by decide), RL_sum R, RL_k R hc]
  | 1, _ => rw [if_neg (by decide), if_pos rfl, if_neg (by decide), if_pos rfl, RL_slow R H.2.2.1 hc]
  | 2, _ => rw [if_neg (by decide), if_neg (by decide), if_pos rfl, if_neg (by decide), if_neg (by decide), (GD_read H hc).2]
/-- what was seen, in both -/
def FR (sw sv fk fv : Nat → Int32) (n : Nat) : Prop := ∀ i, i < n → sw i = fk i ∧ sv i = fv i ∧ ∃ k, k < 3 ∧ fk i = nI k
theorem fit_eq {h : Rg} {m sw sv fk fv : Nat → Int32} {n : Nat} (H : GD h m) (F : FR sw sv fk fv n) {c : Nat} (hc : c < 4) : fitS h sw sv n c ↔ fitM m fk fv n c := by
  unfold fitS fitM
  constructor
  · intro q i hi
    obtain ⟨e1, e2, k, hk, e3⟩ := F i hi
    have := q i hi
    rw [e1, e2, e3, an_eq H hc hk] at this
    rw [e3]
    exact this
  · intro q i hi
    obtain ⟨e1, e2, k, hk, e3⟩ := F i hi
    have := q i hi
    rw [e3] at this
    rw [e1, e2, e3, an_eq H hc hk]
    exact this
theorem whi_eq {h : Rg} {m sw sv fk fv : Nat → Int32} {n : Nat} (H : GD h m) (F : FR sw sv fk fv n) : ∀ N, N ≤ 4 → whiS h sw sv n N = caM m fk fv n N
  | 0, _ => rfl
  | c + 1, hn => by
    have e := fit_eq H F (show c < 4 by omega)
    rw [whiS, caM, whi_eq H F c (by omega)]
    by_cases q : fitM m fk fv n c
    · rw [if_pos q, if_pos (e.mpr q)]
    · rw [if_neg q, if_neg (fun z => q (e.mp z))]
theorem ca_hi {m fk fv : Nat → Int32} {n : Nat} : ∀ N, N ≤ 4 → ∀ i, 24 ≤ i → i < 32 → gb (caM m fk fv n N) i = false
  | 0, _, i, _, _ => by rw [caM]; exact zero_gb i
  | c + 1, hn, i, h1, h2 => by
    have ih := ca_hi (m := m) (fk := fk) (fv := fv) (n := n) c (by omega) i h1 h2
    rw [caM]
    split
    · rw [or_gb, ih, pw_gb (by omega)]
      have : ¬ i = c := by omega
      simp [this]
    · exact ih
theorem cn_le (N : Nat) : ∀ n, cn N n ≤ n
  | 0 => Nat.le_refl _
  | n + 1 => by
    have := cn_le N n
    have h2 := Nat.mod_lt (N / 2 ^ n) (show 0 < 2 by decide)
    rw [cn]
    omega
theorem alk_le (an : Nat → Int32) (f x : Int32) : ∀ n, alkS an f x n ≤ n
  | 0 => Nat.le_refl _
  | n + 1 => by
    have := alk_le an f x n
    rw [alkS]
    split
    · split <;> omega
    · omega
theorem gi_alk {m : Nat → Int32} {f w : Int32} {c : Nat} (hb : bit f c) : ∀ e, giM m f w c e = alkS (fun i => prM m i w) f (prM m c w) e
  | 0 => rfl
  | e + 1 => by
    rw [giM, alkS, gi_alk hb e]
    by_cases q : bit f e
    · rw [if_pos ⟨hb, q⟩, if_pos q]
      by_cases z : prM m c w = prM m e w
      · rw [if_pos z, if_pos z.symm]
      · rw [if_neg z, if_neg (fun s => z s.symm)]
    · rw [if_neg (fun z => q z.2), if_neg q]
theorem gi_0 {m : Nat → Int32} {f w : Int32} {c : Nat} (hb : ¬ bit f c) : ∀ e, giM m f w c e = 0
  | 0 => rfl
  | e + 1 => by
    rw [giM, if_neg (fun z => hb z.1)]
    exact gi_0 hb e
theorem lg_eq {m : Nat → Int32} {f w : Int32} {N : Nat} (hN : N ≤ 4) : ∀ c, ∃ x, x ≤ 4 ∧ mosS (fun i => prM m i w) f N c = nI x ∧ lgM m f w N c = nI x
  | 0 => ⟨0, by omega, rfl, rfl⟩
  | c + 1 => by
    obtain ⟨x, hx, e1, e2⟩ := lg_eq (m := m) (f := f) (w := w) hN c
    rw [mosS, lgM, e1, e2]
    by_cases q : bit f c
    · have ha := alk_le (fun i => prM m i w) f (prM m c w) N
      rw [if_pos q, gi_alk q]
      by_cases z : nI x < nI (alkS (fun i => prM m i w) f (prM m c w) N)
      · rw [if_pos z, if_neg (Int32.not_le.mpr z)]
        exact ⟨_, by omega, rfl, rfl⟩
      · rw [if_neg z, if_pos (Int32.not_lt.mp z)]
        exact ⟨x, hx, rfl, rfl⟩
    · rw [if_neg q, gi_0 q, if_pos (nI_le (Nat.zero_le x) (by omega))]
      exact ⟨x, hx, rfl, rfl⟩
theorem ask_ak {M M' : Nat → Int32} (he : ∀ k, k < 3 → M k = M' k) (h0 : M' 0 < nI 5) : ∀ k, k < 3 → askS M (k + 1) = akM M' k
  | 0, _ => by
    rw [askS, akM, he 0 (by omega)]
    exact if_pos h0
  | k + 1, hk => by
    rw [askS, akM, ask_ak he h0 k (by omega), he (k + 1) hk]
    by_cases q : (akM M' k).2 ≤ M' (k + 1)
    · rw [if_pos q, if_neg (Int32.not_lt.mpr q)]
    · rw [if_neg q, if_pos (Int32.not_le.mp q)]
theorem ask_eq {σ : Hp} {h : Rg} {m : Nat → Int32} (H : GD (σ 1 0) m) (F : FR (σ 0 0 3) (σ 0 0 4) (h 8) (h 9) (sN σ)) : askA σ = akA h m (sN σ) := by
  have R := H.1
  have h4 := R.1.2.2.1
  have ef : fiS σ = cdM h m (sN σ) := by
    unfold fiS cdM
    rw [RL_C R]
    exact whi_eq H F (nC (σ 1 0)) h4
  have hp : popS (cdM h m (sN σ)) = cbS (cdM h m (sN σ)) 24 := pop_cb _ (tn_lt _ (by decide) (fun i h1 h2 => ca_hi (mC m) (by rw [RL_C R]; exact h4) i h1 h2))
  have hM : ∀ k, k < 3 → ∃ x, x ≤ 4 ∧ maS σ k = nI x ∧ gM h m (sN σ) k = nI x := by
    intro k hk
    obtain ⟨x, hx, e1, e2⟩ := lg_eq (m := m) (f := cdM h m (sN σ)) (w := nI k) h4 (nC (σ 1 0))
    refine ⟨x, hx, ?_, ?_⟩
    · unfold maS
      rw [ef, ← e1]
      exact mosS_congr (fun i hi => an_eq H (by omega) hk) (Nat.le_refl _)
    · unfold gM
      rw [RL_C R]
      exact e2
  have he : ∀ k, k < 3 → maS σ k = gM h m (sN σ) k := fun k hk => by
    obtain ⟨x, -, e1, e2⟩ := hM k hk
    rw [e1, e2]
  have h0 : gM h m (sN σ) 0 < nI 5 := by
    obtain ⟨x, hx, -, e2⟩ := hM 0 (by decide)
    rw [e2]
    exact nI_lt (by omega) (by omega)
  unfold askA akA
  rw [ef, hp, cb_cn _ 24 (Nat.le_refl _), ask_ak he h0 2 (by decide)]
  have hc := cn_le (tn (cdM h m (sN σ))) 24
  by_cases q : 1 < cn (tn (cdM h m (sN σ))) 24
  · rw [if_pos ((nI_ltI (by omega) (by omega)).mpr q), if_pos ((nI_leI (by omega) (by omega)).mpr q)]
  · rw [if_neg (fun z => q ((nI_ltI (by omega) (by omega)).mp z)), if_neg (fun z => q ((nI_leI (by omega) (by omega)).mp z))]
