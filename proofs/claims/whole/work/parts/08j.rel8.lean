/-! ===== evens, in both ===== -/
theorem RL_eve {h : Rg} {m : Nat → Int32} (H : Rlm h m) {a t : Nat} (ha : a < nC h) (ht : t < 100) : ∀ n, n ≤ nC h → Rlm (eveS h a (nI t) n) (mEv m a (nI t) n) ∧ eveS h a (nI t) n 0 = h 0
  | 0, _ => ⟨H, rfl⟩
  | n + 1, hn => by
    have h4 := H.1.2.2.1
    obtain ⟨H1, z1⟩ := RL_eve H ha ht n (by omega)
    rw [eveS, mEv]
    by_cases h1 : n = a
    · rw [if_pos h1, if_pos h1]; exact ⟨H1, z1⟩
    · have e2 : mSh (nC h) (nI t) a n = shareS (nC h) (nI t) a n := sh_eq ht H.1.2.1 h4 (by omega)
      unfold mSh at e2
      rw [if_neg h1, if_neg h1, RL_C H, RL_ow H1 n (show a < 4 by omega), Int32.add_assoc, e2]
      exact ⟨RL_up H1 (by omega) (sl_h a (by omega) n (by omega)).2 (by decide) _, z1⟩
