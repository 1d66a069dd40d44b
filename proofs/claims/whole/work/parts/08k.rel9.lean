/-! ===== bounds, in both ===== -/
theorem RL_setb {h : Rg} {m : Nat → Int32} (H : Rlm h m) {a : Nat} (ha : a < 4) (x y z : Int32) : Rlm (setbS h a x y z) (mSb m a x y z) := by
  unfold setbS mSb
  exact RL_up (RL_up (RL_up H (by omega) (sl_b a ha).1 (by decide) x) (by omega) (sl_b a ha).2.1 (by decide) y) (by omega) (sl_b a ha).2.2 (by decide) z
