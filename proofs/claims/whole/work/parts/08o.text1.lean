/-! ===== the text, in both: tokens ===== -/
theorem nE_cg (g : Nat → Int32) {len p q : Nat} (h : nS g len p = nS g len q) : nE g len p = nE g len q := by unfold nE; rw [h]
theorem nK_cg (g : Nat → Int32) {len p q : Nat} (h : nS g len p = nS g len q) : nK g len p = nK g len q := by unfold nK; rw [h]
theorem pE_cg (g : Nat → Int32) {len p q : Nat} (h : nS g len p = nS g len q) : ∀ i, nS g len (pE g len p i) = nS g len (pE g len q i)
  | 0 => h
  | i + 1 => by rw [pE, pE, nE_cg g (pE_cg g h i)]
theorem pE_sh (g : Nat → Int32) (len q : Nat) : ∀ i, pE g len q (i + 1) = pE g len (nE g len q) i
  | 0 => rfl
  | i + 1 => by rw [pE, pE_sh g len q i, pE]
theorem pE_ad (g : Nat → Int32) (len q n : Nat) : ∀ i, pE g len (pE g len q n) i = pE g len q (n + i)
  | 0 => rfl
  | i + 1 => by rw [pE, pE_ad g len q n i]; rfl
/-- slot n holds the token from place q on -/
def TKn (u : Rg) (g : Nat → Int32) (len q n : Nat) : Prop := u 2 n = nK g len q ∧ u 3 n = nI (nS g len q) ∧ (nS g len q < len → ¬ isL (g (nS g len q)) → isF (g (nS g len q)) → u 4 n = valF g (nS g len q) (nE g len q - nS g len q))
theorem TKn_cg {u : Rg} {g : Nat → Int32} {len p q n : Nat} (h : nS g len p = nS g len q) (H : TKn u g len q n) : TKn u g len p n := by
  unfold TKn at *
  rw [nK_cg g h, nE_cg g h, h]
  exact H
theorem tkU_2 (t : Rg) (len f s : Nat) : tkU t len f s 2 f = tkK (t 1) len s := by
  unfold tkU
  split
  · rw [up2_same, upd_eq]
  · split
    · rw [up2_ne (by decide), up2_same, upd_eq]
    · rw [up2_same, upd_eq]
theorem tkU_3 (t : Rg) (len f s : Nat) : tkU t len f s 3 = t 3 := by
  unfold tkU
  split
  · rw [up2_ne (by decide)]
  · split
    · rw [up2_ne (by decide), up2_ne (by decide)]
    · rw [up2_ne (by decide)]
theorem tkU_4 (t : Rg) (len f s : Nat) (hL : ¬ isL (t 1 s)) (hF : isF (t 1 s)) : tkU t len f s 4 f = valF (t 1) s (tkE (t 1) len s - s) := by
  unfold tkU
  rw [if_neg hL, if_pos hF, up2_same, upd_eq]
theorem up2_j {h : Rg} {k j j' k' : Nat} {x : Int32} (hj : ¬ j' = j) : up2 h k j x k' j' = h k' j' := by
  unfold up2
  split
  · rename_i e; rw [upd_ne hj, e]
  · rfl
theorem tkU_j (t : Rg) (len f s : Nat) {k n : Nat} (hn : ¬ n = f) : tkU t len f s k n = t k n := by
  unfold tkU
  split
  · rw [up2_j hn]
  · split
    · rw [up2_j hn, up2_j hn]
    · rw [up2_j hn]
theorem ft_ok {len : Nat} : ∀ (fuel : Nat) (t : Rg) (f p : Nat), p ≤ len → len < p + fuel →
    f ≤ (ftS len fuel t f p).2 ∧ (∀ k n, n < f → (ftS len fuel t f p).1 k n = t k n ∨ k < 2) ∧ (∀ i, f + i < (ftS len fuel t f p).2 → TKn (ftS len fuel t f p).1 (t 1) len (pE (t 1) len p i) (f + i)) ∧ nS (t 1) len (pE (t 1) len p ((ftS len fuel t f p).2 - f)) = len
  | 0, t, f, p, h1, h2 => absurd h2 (by omega)
  | fuel + 1, t, f, p, h1, h2 => by
    rw [ftS]
    by_cases hp : p < len
    · rw [if_pos hp]
      by_cases hb : t 1 p = nI 32
      · rw [if_pos hb]
        have e := nS_bl (t 1) hp hb
        obtain ⟨i1, i2, i3, i4⟩ := ft_ok (len := len) fuel t f (p + 1) (by omega) (by omega)
        refine ⟨i1, i2, fun i hi => TKn_cg (pE_cg (t 1) e i) (i3 i hi), ?_⟩
        rw [pE_cg (t 1) e]
        exact i4
      · rw [if_neg hb]
        obtain ⟨hg1, hg2⟩ := tkE_gt (t 1) hp
        have eS := nS_nb (t 1) hp hb
        have eE : nE (t 1) len p = tkE (t 1) len p := by unfold nE; rw [eS, if_neg (by omega)]
        have e1 : tkU (up2 t 3 f (nI p)) len f p 1 = t 1 := by rw [tkU_1]; exact up2_ne (by decide)
        have eu : up2 t 3 f (nI p) 1 = t 1 := up2_ne (by decide)
        obtain ⟨i1, i2, i3, i4⟩ := ft_ok (len := len) fuel (tkU (up2 t 3 f (nI p)) len f p) (f + 1) (tkE (t 1) len p) hg2 (by omega)
        rw [e1] at i3 i4
        refine ⟨by omega, fun k n hn => ?_, fun i hi => ?_, ?_⟩
        · rcases i2 k n (by omega) with q | q
          · rw [q, tkU_j _ _ _ _ (by omega), up2_j (by omega)]
            exact Or.inl rfl
          · exact Or.inr q
        · cases i with
          | zero =>
            have z : ∀ k, 2 ≤ k → (ftS len fuel (tkU (up2 t 3 f (nI p)) len f p) (f + 1) (tkE (t 1) len p)).1 k f = tkU (up2 t 3 f (nI p)) len f p k f := fun k hk => (i2 k f (by omega)).resolve_right (by omega)
            show TKn _ (t 1) len p f
            unfold TKn
            rw [eS, eE, z 2 (by decide), z 3 (by decide), z 4 (by decide), tkU_2, tkU_3, eu, up2_same, upd_eq]
            refine ⟨?_, rfl, fun _ hL hF => ?_⟩
            · unfold nK
              rw [eS, if_neg (by omega)]
            · rw [tkU_4 _ _ _ _ (by rw [eu]; exact hL) (by rw [eu]; exact hF), eu]
          | succ i =>
            rw [pE_sh, eE]
            have := i3 i (by omega)
            rw [show f + (i + 1) = f + 1 + i by omega]
            exact this
        · rw [show (ftS len fuel (tkU (up2 t 3 f (nI p)) len f p) (f + 1) (tkE (t 1) len p)).2 - f = ((ftS len fuel (tkU (up2 t 3 f (nI p)) len f p) (f + 1) (tkE (t 1) len p)).2 - (f + 1)) + 1 by omega, pE_sh, eE]
          exact i4
    · rw [if_neg hp]
      have e : p = len := by omega
      refine ⟨Nat.le_refl _, fun _ _ _ => Or.inl rfl, fun i hi => absurd hi (by show ¬ f + i < f; omega), ?_⟩
      show nS (t 1) len (pE (t 1) len p (f - f)) = len
      rw [Nat.sub_self, e]
      exact nS_end (t 1) len
theorem isF_of {x : Int32} (h : isF x) : ∃ j, 48 ≤ j ∧ j ≤ 57 ∧ x = nI j := by
  obtain ⟨j, h1, h2, e⟩ := inB_i (a := 48) (b := 57) (by decide) (by decide) (show inB x (nI 48) (nI 57) from h)
  exact ⟨j, h1, h2, e⟩
theorem v1_le : ∀ j, j < 58 → 48 ≤ j → nI 0 * nI 10 + (nI j - nI 48) = nI 10 * nI 0 + nI j - nI 48 ∧ nI 10 * nI 0 + nI j - nI 48 ≤ nI 99 := by decide
theorem v2_eq (a y : Int32) : a * nI 10 + (y - nI 48) = nI 10 * a + y - nI 48 := by
  rw [Int32.sub_eq_add_neg, Int32.sub_eq_add_neg, ← Int32.add_assoc, Int32.mul_comm]
theorem val_eq {g : Nat → Int32} {s : Nat} (hF : isF (g s)) : ∀ n, n ≤ 2 → valF g s n = vlM g s n := by
  obtain ⟨j, h1, h2, e⟩ := isF_of hF
  have k1 := v1_le j (by omega) h1
  have e1 : vlM g s 1 = nI 10 * nI 0 + g s - nI 48 := by
    show (if nI 0 ≤ nI 99 then nI 10 * nI 0 + g (s + 0) - nI 48 else nI 0) = _
    rw [if_pos (by decide)]
    rfl
  have f1 : valF g s 1 = vlM g s 1 := by
    rw [e1]
    show nI 0 * nI 10 + (g (s + 0) - nI 48) = _
    rw [show s + 0 = s from rfl, e]
    exact k1.1
  intro n hn
  match n, hn with
  | 0, _ => rfl
  | 1, _ => exact f1
  | 2, _ =>
    show valF g s 1 * nI 10 + (g (s + 1) - nI 48) = if vlM g s 1 ≤ nI 99 then nI 10 * vlM g s 1 + g (s + 1) - nI 48 else vlM g s 1
    rw [f1, if_pos (by rw [e1, e]; exact k1.2), v2_eq]
theorem tk3 {g : Nat → Int32} {len q : Nat} (h : nK g len q = nI 3) (v : Int32) : nS g len q ≠ len ∧ ¬ isL (g (nS g len q)) ∧ isF (g (nS g len q)) ∧ nE g len q - nS g len q ≤ 2 := by
  unfold nK at h
  by_cases e : nS g len q = len
  · rw [if_pos e] at h
    exact absurd h (by decide)
  · rw [if_neg e] at h
    unfold tkK at h
    by_cases hL : isL (g (nS g len q))
    · rw [if_pos hL] at h
      unfold wK at h
      split at h
      · exact absurd h (by decide)
      · split at h
        · exact absurd h (by decide)
        · exact absurd h (by decide)
    · rw [if_neg hL] at h
      by_cases hF : isF (g (nS g len q))
      · rw [if_pos hF] at h
        unfold fK at h
        split at h
        · exact absurd h (by decide)
        · rename_i hn
          refine ⟨e, hL, hF, ?_⟩
          have eE : nE g len q = tkE g len (nS g len q) := by unfold nE; rw [if_neg e]
          rw [eE]
          exact Nat.le_of_not_lt (fun z => hn (Or.inl z))
      · rw [if_neg hF] at h
        split at h <;> exact absurd h (by decide)
/-- the row of tokens, as the class finds them -/
def TKF (u : Rg) (g : Nat → Int32) (len N : Nat) : Prop := u 2 N = nI 0 ∧ ∀ n, n ≤ N → u 2 n = nK g len (pE g len 0 n) ∧ u 3 n = nI (nS g len (pE g len 0 n)) ∧ (u 2 n = nI 3 → ∀ v, u 4 n = nV g len (pE g len 0 n) v)
theorem fin_ok (t : Rg) (len : Nat) : TKF (finS t len) (t 1) len (ftS len (len + 1) t 0 0).2 := by
  obtain ⟨-, -, i3, i4⟩ := ft_ok (len := len) (len + 1) t 0 0 (by omega) (by omega)
  rw [Nat.sub_zero] at i4
  refine ⟨finS_end t len, fun n hn => ?_⟩
  by_cases e : n = (ftS len (len + 1) t 0 0).2
  · have k0 : nK (t 1) len (pE (t 1) len 0 n) = nI 0 := by unfold nK; rw [e, if_pos i4]
    have f0 : finS t len 2 n = nI 0 := by rw [e]; exact finS_end t len
    refine ⟨by rw [f0, k0], ?_, fun z => absurd (f0.symm.trans z) (by decide)⟩
    rw [e, i4]
    unfold finS
    rw [up2_same, upd_eq]
  · have T := i3 n (by omega)
    rw [Nat.zero_add] at T
    have f : ∀ k, finS t len k n = (ftS len (len + 1) t 0 0).1 k n := fun k => by unfold finS; rw [up2_j e, up2_j e]
    rw [f, f, f]
    refine ⟨T.1, T.2.1, fun z v => ?_⟩
    rw [T.1] at z
    obtain ⟨k1, k2, k3, k4⟩ := tk3 z v
    have hle := nS_le (t 1) (pE_le (t 1) (Nat.zero_le len) n).2
    rw [T.2.2 (by omega) k2 k3]
    unfold nV
    rw [if_neg k1, if_pos k3]
    exact val_eq k3 _ k4
theorem kc_k {k : Int32} : (kc k = nI 1000 ↔ k = nI 0) ∧ (kc k = nI 1003 ↔ k = nI 1) ∧ (kc k = nI 1004 ↔ k = nI 2) ∧ (kc k = nI 1002 ↔ k = nI 3) ∧ (kc k = nI 59 ↔ k = nI 4) := by
  unfold kc
  by_cases h0 : k = nI 0
  · subst h0; decide
  · by_cases h1 : k = nI 1
    · subst h1; decide
    · by_cases h2 : k = nI 2
      · subst h2; decide
      · by_cases h3 : k = nI 3
        · subst h3; decide
        · by_cases h4 : k = nI 4
          · subst h4; decide
          · rw [if_neg h0, if_neg h1, if_neg h2, if_neg h3, if_neg h4]
            exact ⟨⟨fun z => absurd z (by decide), fun z => absurd z h0⟩, ⟨fun z => absurd z (by decide), fun z => absurd z h1⟩, ⟨fun z => absurd z (by decide), fun z => absurd z h2⟩, ⟨fun z => absurd z (by decide), fun z => absurd z h3⟩, ⟨fun z => absurd z (by decide), fun z => absurd z h4⟩⟩
theorem pn_nr {u : Rg} {g : Nat → Int32} {len N n : Nat} (H : TKF u g len N) (hn : n ≤ N) (v lo hi : Int32) : pN u n lo hi ↔ nR g len (pE g len 0 n) v lo hi := by
  obtain ⟨h1, -, h3⟩ := H.2 n hn
  unfold pN nR inB
  rw [kc_k.2.2.2.1, h1]
  constructor
  · intro q
    have e := h3 (h1.trans q.1) v
    rw [← e]
    exact ⟨q.1, q.2.1, Int32.not_lt.mpr q.2.2⟩
  · intro q
    have e := h3 (h1.trans q.1) v
    rw [e]
    exact ⟨q.1, q.2.1, Int32.not_lt.mp q.2.2⟩
