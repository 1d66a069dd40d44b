/-! ===== budgets, in both ===== -/
theorem RL_move {h : Rg} {m : Nat → Int32} (H : Rlm h m) {a c e : Nat} (ha : a < nC h) (hc : c < nC h) (he : e < nC h) (hac : ¬ a = c) (hae : ¬ a = e) (k : Int32) : Rlm (moveS h a c e k) (mMv m a c e k) := by
  have h4 := H.1.2.2.1
  unfold moveS mMv
  have H1 := RL_up H (i := 111 + 4 * c + a) (by omega) (sl_h a (by omega) c (by omega)).2 (by decide) (h 7 (a * 4 + c) - k)
  rw [RL_g H ha hc hac, RL_g H1 ha he hae]
  exact RL_up H1 (by omega) (sl_h a (by omega) e (by omega)).2 (by decide) _
theorem RL_tot {h : Rg} {m : Nat → Int32} (H : Rlm h m) {a : Nat} (ha : a < nC h) : ∀ n, n ≤ nC h → mTo m a n = totS h a n
  | 0, _ => rfl
  | n + 1, hn => by
    have ih := RL_tot H ha n (by omega)
    rw [mTo, totS, ih]
    by_cases h1 : n = a
    · rw [if_pos h1, if_pos h1]
    · rw [if_neg h1, if_neg h1, RL_lf H ha (by omega) (fun z => h1 z.symm)]
