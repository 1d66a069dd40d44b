/-! ===== the text, in both: the new ledger ===== -/
theorem bgS_b (g : Nat → Int32) : ∀ c, c < 4 → bgS g (2 + 3 * c) = nI 99 ∧ bgS g (2 + 3 * c + 1) = nI 9 ∧ bgS g (2 + 3 * c + 2) = nI 99
  | 0, _ => ⟨rfl, rfl, rfl⟩
  | 1, _ => ⟨rfl, rfl, rfl⟩
  | 2, _ => ⟨rfl, rfl, rfl⟩
  | 3, _ => ⟨rfl, rfl, rfl⟩
theorem bgS_hi (g : Nat → Int32) {i : Nat} (h1 : 14 ≤ i) (h2 : i < 127) : bgS g i = nI 0 := by
  unfold bgS
  rw [bgL_hi _ (Or.inl h1) 4 (Nat.le_refl _), upd_ne (by omega)]
  exact fillT_at g (nI 0) 127 h2
theorem bgL_1 (b : Nat → Int32) : bgL b 4 1 = b 1 := rfl
theorem bgS_1 (g : Nat → Int32) : bgS g 1 = nI 0 := by
  unfold bgS
  rw [bgL_1, upd_ne (by decide)]
  exact fillT_at g (nI 0) 127 (by decide)
theorem bgS_0 (g : Nat → Int32) : bgS g 0 = nI 3 := by
  unfold bgS
  rw [bgL_hi _ (Or.inr rfl) 4 (Nat.le_refl _), upd_eq]
theorem RT_new (L0 : Rg) (b0 : Nat → Int32) : RT (newS L0) (bgS b0) := by
  have f4 : ∀ (g : Nat → Int32) (x : Int32) {a : Nat}, a < 4 → fillT g x 4 a = x := fun g x a ha => fillT_at g x 4 ha
  refine ⟨fun i hi hL => ?_, (newS_W L0).1, (newS_W L0).2.2, fun a ha => ⟨99, by decide, f4 (L0 1) (nI 99) ha⟩, fun a ha => ⟨f4 (L0 4) (nI 0) ha, f4 (L0 5) (nI 0) ha⟩⟩
  rcases hL with hL | ⟨h1, h2⟩
  · by_cases e0 : i = 0
    · subst e0; rw [bgS_0]; rfl
    · by_cases e1 : i = 1
      · subst e1; rw [bgS_1]; rfl
      · by_cases e14 : i = 14
        · subst e14; rw [bgS_hi b0 (by decide) (by decide)]; rfl
        · have hc : (i - 2) / 3 < 4 := by omega
          obtain ⟨s1, s2, s3⟩ := sl_b _ hc
          obtain ⟨b1, b2, b3⟩ := bgS_b b0 _ hc
          have hr : i = 2 + 3 * ((i - 2) / 3) ∨ i = 2 + 3 * ((i - 2) / 3) + 1 ∨ i = 2 + 3 * ((i - 2) / 3) + 2 := by omega
          generalize (i - 2) / 3 = c at *
          rcases hr with e | e | e
          · rw [e, b1, s1]; exact (f4 (L0 1) (nI 99) hc).symm
          · rw [e, b2, s2]; exact (f4 (L0 2) (nI 9) hc).symm
          · rw [e, b3, s3]; exact (f4 (L0 3) (nI 99) hc).symm
  · rw [bgS_hi b0 (by omega) hi]
    by_cases q1 : i < 91
    · have hc : i - 87 < 4 := by omega
      have s := (sl_k _ hc).1
      rw [show 87 + (i - 87) = i by omega] at s
      rw [s]
      exact (f4 (L0 4) (nI 0) hc).symm
    · by_cases q2 : i < 95
      · have hc : i - 91 < 4 := by omega
        have s := (sl_k _ hc).2
        rw [show 91 + (i - 91) = i by omega] at s
        rw [s]
        exact (f4 (L0 5) (nI 0) hc).symm
      · have hc : (i - 95) / 4 < 4 := by omega
        have s := (sl_h _ hc ((i - 95) % 4) (by omega)).1
        rw [show 95 + 4 * ((i - 95) / 4) + (i - 95) % 4 = i by omega] at s
        rw [s]
        exact (fillT_at (L0 6) (nI 0) 16 (by omega)).symm
theorem spa_at {L : Rg} (h4 : nC L ≤ 4) {a c : Nat} (hc : c < nC L) (hca : ¬ c = a) : ∀ n, n ≤ 4 → a < n → spaS L n 7 (a * 4 + c) = shareS (nC L) (L 1 a) a c
  | 0, _, h => absurd h (Nat.not_lt_zero _)
  | n + 1, hn, h => by
    have eC : nC (spaS L n) = nC L := nC_congr (spaS_k L (by decide) n)
    rw [spaS]
    by_cases e : a = n
    · rw [← e, splS_at (nC L) h4 c hc hca, e, eC, spaS_k L (by decide) n]
    · rw [splS_ne (by omega) e (nC L) h4]
      exact spa_at h4 hc hca n (by omega) (by omega)
theorem sbS_at {b : Nat → Int32} {a : Nat} : ∀ n, ∀ c, c < n → ¬ c = a → sbS b a n (111 + 4 * c + a) = mSh (mC b) (b (2 + 3 * a)) a c
  | 0, c, hc, _ => absurd hc (Nat.not_lt_zero _)
  | n + 1, c, hc, hca => by
    rw [sbS]
    by_cases e : n = a
    · rw [if_pos e]
      exact sbS_at n c (by omega) hca
    · rw [if_neg e]
      by_cases e2 : c = n
      · rw [e2, upd_eq]
      · rw [upd_ne (by omega)]
        exact sbS_at n c (by omega) hca
theorem sbS_ne {b : Nat → Int32} {a a' c : Nat} (h1 : a < 4) (h2 : a' < 4) (ha : ¬ a' = a) : ∀ n, sbS b a n (111 + 4 * c + a') = b (111 + 4 * c + a')
  | 0 => rfl
  | n + 1 => by
    rw [sbS]
    by_cases e : n = a
    · rw [if_pos e]
      exact sbS_ne h1 h2 ha n
    · rw [if_neg e, upd_ne (by omega)]
      exact sbS_ne h1 h2 ha n
theorem sbA_at {b : Nat → Int32} {a c : Nat} (hc : c < mC b) (hca : ¬ c = a) : ∀ n, n ≤ 4 → a < n → sbA b n (111 + 4 * c + a) = mSh (mC b) (b (2 + 3 * a)) a c
  | 0, _, h => absurd h (Nat.not_lt_zero _)
  | n + 1, hn, h => by
    have eC : mC (sbA b n) = mC b := mC_congr (sbA_lo b (by decide) n)
    rw [sbA]
    by_cases e : a = n
    · rw [← e, sbS_at (mC b) c hc hca, e, eC, sbA_lo b (by omega) n]
    · rw [sbS_ne (by omega) (by omega) e]
      exact sbA_at hc hca n (by omega) (by omega)
theorem sl_7 : ∀ i, i < 111 → ¬ (sl i).1 = 7 := by decide +kernel
theorem GD_spa {L : Rg} {b : Nat → Int32} (R : RT L b) : GD (spaS L (nC L)) (sbA b (mC b)) := by
  obtain ⟨r1, r2, r3, r4, r5⟩ := R
  have h4 := r2.2.2.1
  have h2 := r2.2.1
  have e0 : b 0 = L 0 0 := RV_at r1 (by decide) (by decide) (Or.inl (by decide))
  have eM : mC b = nC L := by unfold mC nC; rw [e0]
  have k := fun {j : Nat} (hj : ¬ j = 7) => spaS_k L hj (nC L)
  have eC : nC (spaS L (nC L)) = nC L := nC_congr (k (by decide))
  have eW : nW (spaS L (nC L)) = 0 := (nW_congr (k (by decide))).trans r3
  have sh : ∀ a c, a < nC L → c < nC L → ¬ c = a → ∃ t, t ≤ 99 ∧ L 1 a = nI t ∧ spaS L (nC L) 7 (a * 4 + c) = nI (shN t (nC L) a c) ∧ sbA b (mC b) (111 + 4 * c + a) = nI (shN t (nC L) a c) := by
    intro a c ha hc hca
    obtain ⟨t, ht, et⟩ := r4 a (by omega)
    have eb : b (2 + 3 * a) = L 1 a := RV_at r1 (by omega) (sl_b a (by omega)).1 (Or.inl (by omega))
    refine ⟨t, ht, et, ?_, ?_⟩
    · rw [spa_at h4 hc hca (nC L) h4 ha, et, shN_eq (by omega) h2 h4 (by omega)]
    · rw [sbA_at (by omega) hca (mC b) (by omega) (by omega), eb, et, eM, sh_eq (by omega) h2 h4 (by omega), shN_eq (by omega) h2 h4 (by omega)]
  refine ⟨⟨r2.congr (k (by decide)), ?_⟩, ?_, ?_, ?_, ?_, ?_⟩
  · rw [eC, eW]
    intro i hi hL
    have base : i < 111 → (i < 15 ∨ (87 ≤ i ∧ i < 111)) → sbA b (mC b) i = spaS L (nC L) (sl i).1 (sl i).2 := fun q1 q2 => by
      rw [sbA_lo b q1, spaS_k L (sl_7 i q1)]
      exact r1 i hi q2
    rcases hL with q | q | ⟨a, c, ha, hc, hac, e⟩
    · exact base (by omega) (Or.inl (by omega))
    · exact base (by omega) (Or.inr q)
    · obtain ⟨t, -, -, x1, x2⟩ := sh a c ha hc (fun z => hac z.symm)
      rw [e, x2, (sl_h a (by omega) c (by omega)).2, x1]
  · unfold JV
    rw [k (by decide), k (by decide)]
    exact ⟨by rw [(r5 0 (by decide)).1, (r5 0 (by decide)).2], fun a ha => by rw [(r5 a ha).1, (r5 a ha).2]; decide⟩
  · unfold KV
    rw [k (by decide)]
    exact fun a ha i _ _ => by rw [(r5 a ha).1]; exact zero_gb i
  · intro i hi
    rw [eW] at hi
    exact absurd hi (Nat.not_lt_zero _)
  · unfold NV
    rw [k (by decide)]
    exact r4
  · intro a ha
    rw [eC] at ha ⊢
    obtain ⟨t, ht, et⟩ := r4 a (by omega)
    have hg : ∀ c, c < nC L → ¬ c = a → spaS L (nC L) 7 (a * 4 + c) = nI (0 * ow L c a + shN t (nC L) a c) := fun c hc hca => by
      rw [spa_at h4 hc hca (nC L) h4 ha, et, shN_eq (by omega) h2 h4 (by omega), Nat.zero_mul, Nat.zero_add]
    have hs := bSum_os (t := t) (N := nC L) (z := 0) (h := L) (g := spaS L (nC L) 7) (by omega) (fun c => by rw [Nat.zero_mul]; omega) (nC L) hg
    rw [shSum_t (by omega) h2 h4 ha, Nat.zero_mul, Nat.zero_add] at hs
    refine ⟨fun c hc hca => ⟨shN t (nC L) a c, ?_, ?_, fun _ => ?_⟩, by omega⟩
    · have := bSum_le (g := spaS L (nC L) 7) hca (nC L) hc
      have hk := shN_le (t := t) (n := nC L) (a := a) (c := c) (by omega)
      rw [hg c hc hca, Nat.zero_mul, Nat.zero_add, nI_clamp (by omega)] at this
      omega
    · rw [hg c hc hca, Nat.zero_mul, Nat.zero_add]
    · have z : ow (spaS L (nC L)) c a = 0 := by unfold ow; rw [eW]; rfl
      omega
theorem GD_ext {h : Rg} {m n : Nat → Int32} (H : GD h m) (e : ∀ i, i < 127 → n i = m i) : GD h n := ⟨⟨H.1.1, fun i hi hL => by rw [e i hi]; exact H.1.2 i hi hL⟩, H.2⟩
theorem cpy_at {f g : Nat → Int32} {i j n k : Nat} (hk : k < n) : va_cpy f g i j n (j + k) = f (i + k) := by
  unfold va_cpy
  rw [if_pos ⟨by omega, by omega⟩, show j + k - j = k by omega]
theorem cpy_ne {f g : Nat → Int32} {i j n k : Nat} (hk : k < j ∨ j + n ≤ k) : va_cpy f g i j n k = g k := by
  unfold va_cpy
  rw [if_neg (by omega)]
/-- what a text tells, in both -/
theorem tell_eq {σ : Hp} {h : Rg} (hg : h 7 = σ 3 0 1) (hl : tL σ ≤ 80) :
    ((teP h (tL σ)).1 = -9 ∧ ∃ K, K ≤ 80 ∧ (prS σ).1 = nI K ∧ teN h (tL σ) 0 16 = nI K ∧ GD (prS σ).2.2 (sbA (teN h (tL σ) 2) (mC (teN h (tL σ) 2)))) ∨ ∃ s, s ≤ 80 ∧ (prS σ).1 = -10 - nI s ∧ (teP h (tL σ)).1 = nI s := by
  have F := fin_ok (σ 3 0) (tL σ)
  have hN : (ftS (tL σ) (tL σ + 1) (σ 3 0) 0 0).2 ≤ tL σ := ftS_le _ _ _ _ (Nat.le_refl _) (Nat.zero_le _)
  rw [teN_2]
  have e16 : teN h (tL σ) 0 16 = (teP h (tL σ)).2.1 0 16 := NX_f0 (Or.inr (by decide))
  rw [e16]
  have hh7 : up2 (up1 h 2 (bgS (h 2))) 0 16 (nI 0) 7 = σ 3 0 1 := by rw [up2_ne (by decide), up1_ne (by decide)]; exact hg
  have hh2 : up2 (up1 h 2 (bgS (h 2))) 0 16 (nI 0) 2 = bgS (h 2) := by rw [up2_ne (by decide), up1_same]
  have key := pl_mp F (by omega) 82 0 (newS (σ 1 1)) (up2 (up1 h 2 (bgS (h 2))) 0 16 (nI 0)) (h 0 12) 0 hh7 (Nat.zero_le _) (by omega) (Nat.le_refl _) (by rw [hh2]; exact RT_new _ _) (by rw [up2_same, upd_eq])
  rcases key with ⟨K, L', k1, k2, k3, k4, k5, k6⟩ | ⟨s, hs, k1, k2⟩
  · refine Or.inl ⟨k1, K, k2, k3, k6, ?_⟩
    show GD (plS (finS (σ 3 0) (tL σ)) 82 0 (newS (σ 1 1)) 0).2.2 _
    rw [k4]
    exact GD_spa k5
  · exact Or.inr ⟨s, by omega, k1, k2⟩
