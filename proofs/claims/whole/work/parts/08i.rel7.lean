/-! ===== shares, in both ===== -/
/-- a remainder's share, as the class tries it and as the model does -/
theorem rem_lt : ∀ t, t < 100 → ∀ n, n < 3 → ∀ r, r < 4 → (nI r < nI t - nI t / nI (n + 1) * nI (n + 1) ↔ 0 < nI t - nI t / nI (n + 1) * nI (n + 1) - nI r) := by decide +kernel
theorem sh_eq {t n a c : Nat} (ht : t < 100) (h2 : 2 ≤ n) (h4 : n ≤ 4) (hc : c < 4) : mSh n (nI t) a c = shareS n (nI t) a c := by
  obtain ⟨k, rfl⟩ : ∃ k, n = k + 2 := ⟨n - 2, by omega⟩
  unfold mSh shareS rk
  have hr : (if a < c then c - 1 else c) < 4 := by split <;> omega
  have e := rem_lt t ht k (by omega) _ hr
  rw [show k + 2 - 1 = k + 1 by omega]
  by_cases q : nI (if a < c then c - 1 else c) < nI t - nI t / nI (k + 1) * nI (k + 1)
  · rw [if_pos q, if_pos (e.mp q)]
  · rw [if_neg q, if_neg (fun z => q (e.mpr z))]
theorem RL_spl {h : Rg} {m : Nat → Int32} (H : Rlm h m) {a t : Nat} (ha : a < nC h) (e : h 1 a = nI t) (ht : t < 100) : ∀ n, n ≤ nC h → Rlm (splS h a n) (sbS m a n) ∧ splS h a n 0 = h 0
  | 0, _ => ⟨H, rfl⟩
  | n + 1, hn => by
    have h4 := H.1.2.2.1
    obtain ⟨H1, z1⟩ := RL_spl H ha e ht n (by omega)
    rw [splS, sbS]
    by_cases h1 : n = a
    · rw [if_pos h1, if_pos h1]; exact ⟨H1, z1⟩
    · rw [if_neg h1, if_neg h1, RL_C H, (RL_b H (show a < 4 by omega)).1, e, sh_eq ht H.1.2.1 h4 (by omega)]
      exact ⟨RL_up H1 (by omega) (sl_h a (by omega) n (by omega)).2 (by decide) _, z1⟩
