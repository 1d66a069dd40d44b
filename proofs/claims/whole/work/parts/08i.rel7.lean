/-! ===== shares, in both ===== -/
/-- a remainder's share, as the class tries it and as the model does -/
theorem rem_lt : ∀ t, t < 100 → ∀ n, n < 3 → ∀ r, r < 4 → (nI r < nI t - nI t / nI (n + 1) * nI (n + 1) ↔ 0 < nI t - nI t / nI (n + 1) * nI (n + 1) - nI r) := by decide +kernel
theorem sh_eq {t n a c : Nat} (ht : t < 100) (h2 : 2 ≤ n) (h4 : n ≤ 4) (hc : c < 4) : mSh n (nI t) a c = shareS n (nI t) a c := by
  obtain ⟨k, rfl⟩ : ∃ k, n = k + 2 := ⟨n - 2, by omega⟩
  unfold mSh shareS rk
  have hr : (if a < c then c - 1 else c) < 4 := by split <;> omega
  have e := rem_lt t ht k (by omega) _ hr
  rw [show k + 2 - 1 = k + 1 by omega]
  by_cases q : nI (if a < c then c - 1 else c) < nI t - nI t / nI (k + 1) * nI (k + 1)
  · rw [if_pos q, if_pos (e.mp q)]
  · rw [if_neg q, if_neg (fun z => q (e.mpr z))]
