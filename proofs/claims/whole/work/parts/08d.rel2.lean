/-! ===== pull and read, in both ===== -/
theorem upd_id (f : Nat → Int32) (j : Nat) : upd f j (f j) = f := by
  funext i
  unfold upd
  split
  · rename_i e; rw [e]
  · rfl
/-- copy 0's fast writes are all that it knows; fast ones are known -/
def JV (h : Rg) : Prop := h 5 0 = h 4 0 ∧ ∀ a, a < 4 → h 4 a ||| h 5 a = h 4 a
def q0S (h : Rg) (a c : Nat) : Rg := up2 (up2 (up2 h 4 a (h 4 a ||| h 4 c)) 5 a (h 5 a ||| h 5 c)) 6 (a * 4 + c) (h 0 1)
theorem heaS_o (h : Rg) (a c : Nat) {k : Nat} (hk : ¬ k = 6) : ∀ n, heaS h a c n k = h k
  | 0 => rfl
  | n + 1 => by
    rw [heaS]
    split
    · exact heaS_o h a c hk n
    · split
      · exact heaS_o h a c hk n
      · show up2 _ 6 _ _ k = _
        unfold up2
        rw [if_neg hk]
        exact heaS_o h a c hk n
theorem heaS_5 (h : Rg) (a c : Nat) (x : Int32) : ∀ n, heaS (up2 h 5 0 x) a c n = up2 (heaS h a c n) 5 0 x
  | 0 => rfl
  | n + 1 => by
    rw [heaS, heaS, heaS_5 h a c x n]
    split
    · rfl
    · split
      · rfl
      · rw [up2_comm _ _ _ (by omega)]
        rfl
theorem pul0_eq {h : Rg} (J : JV h) {a c : Nat} (hc : c < 4) : pul0S h a c = up2 (q0S h a c) 5 0 (q0S h a c 4 0) := by
  unfold pul0S q0S learnS
  rw [up2_comm _ _ _ (show ¬ (6 = 5 ∧ a * 4 + c = 0) by omega)]
  congr 1
  show up2 (up2 (up2 h 4 a (h 4 a ||| h 4 c)) 5 0 (upd (h 4) a (h 4 a ||| h 4 c) 0)) 5 a (upd (h 5) 0 (upd (h 4) a (h 4 a ||| h 4 c) 0) a ||| upd (h 5) 0 (upd (h 4) a (h 4 a ||| h 4 c) 0) c) = up2 (up2 (up2 h 4 a (h 4 a ||| h 4 c)) 5 a (h 5 a ||| h 5 c)) 5 0 (upd (h 4) a (h 4 a ||| h 4 c) 0)
  by_cases ha : a = 0
  · subst ha
    have e2 : upd (h 5) 0 (upd (h 4) 0 (h 4 0 ||| h 4 c) 0) 0 ||| upd (h 5) 0 (upd (h 4) 0 (h 4 0 ||| h 4 c) 0) c = h 4 0 ||| h 4 c := by
      rw [upd_eq, upd_eq]
      by_cases hc0 : c = 0
      · subst hc0
        rw [upd_eq, Int32.or_self]
      · rw [upd_ne hc0, Int32.or_assoc, J.2 c hc]
    rw [e2, upd_eq]
    funext k
    unfold up2
    by_cases q : k = 5
    · rw [if_pos q, if_pos q, if_pos rfl, if_pos rfl, upd_upd, upd_upd]
    · rw [if_neg q, if_neg q, if_neg q, if_neg q]
  · have h0 : ¬ 0 = a := fun e => ha e.symm
    rw [upd_ne h0, upd_ne ha]
    have e1 : upd (h 5) 0 (h 4 0) c = h 5 c := by
      rw [← J.1, upd_id]
    rw [e1, up2_comm _ _ _ (show ¬ (5 = 5 ∧ 0 = a) by omega)]
theorem RL_q0 {h : Rg} {m : Nat → Int32} (H : Rlm h m) {a c : Nat} (ha : a < 4) (hc : c < 4) : Rlm (q0S h a c) (mP0 m a c) := by
  have H1 := RL_up H (i := 87 + a) (by omega) (sl_k a ha).1 (by decide) (h 4 a ||| h 4 c)
  have H2 := RL_up H1 (i := 91 + a) (by omega) (sl_k a ha).2 (by decide) (h 5 a ||| h 5 c)
  have H3 := RL_up H2 (i := 95 + 4 * a + c) (by omega) (sl_h a ha c hc).1 (by decide) (h 0 1)
  have e1 : mPk m a c = upd m (87 + a) (h 4 a ||| h 4 c) := by unfold mPk; rw [RL_k H ha, RL_k H hc]
  have e2 : mPf m a c = upd (upd m (87 + a) (h 4 a ||| h 4 c)) (91 + a) (h 5 a ||| h 5 c) := by
    unfold mPf
    rw [e1, upd_ne (by omega), upd_ne (by omega), RL_f H ha, RL_f H hc]
  unfold mP0
  rw [e2, upd_ne (by omega), upd_ne (by omega), RL_1 H]
  exact H3
theorem RL_hea {h : Rg} {m : Nat → Int32} (H : Rlm h m) {a c : Nat} (ha : a < 4) (hc : c < 4) : ∀ n, n ≤ 4 → Rlm (heaS h a c n) (mHe m a c n)
  | 0, _ => H
  | n + 1, hn => by
    have ih := RL_hea H ha hc n (by omega)
    rw [heaS, mHe]
    by_cases h1 : n = a
    · rw [if_pos h1, if_neg (pn1 h1), upd_id]; exact ih
    · rw [if_neg h1]
      by_cases h2 : n = c
      · rw [if_pos h2, if_neg (pn2 h2), upd_id]; exact ih
      · rw [if_neg h2]
        rw [RL_h ih ha (show n < 4 by omega), RL_h ih hc (show n < 4 by omega)]
        by_cases h3 : heaS h a c n 6 (a * 4 + n) < heaS h a c n 6 (c * 4 + n)
        · rw [if_pos h3, if_pos (an0 h1 h2 h3)]
          exact RL_up ih (by omega) (sl_h a ha n (by omega)).1 (by decide) _
        · rw [if_neg h3, if_neg (pn3 h3)]
          exact RL_up ih (by omega) (sl_h a ha n (by omega)).1 (by decide) _
theorem RL_pull {h : Rg} {m : Nat → Int32} (H : Rlm h m) (J : JV h) {a c : Nat} (ha : a < 4) (hc : c < 4) : Rlm (pullS h a c) (mPl m a c) := by
  have h4 := H.1.2.2.1
  unfold pullS mPl
  rw [RL_C H, pul0_eq J hc, heaS_5]
  have H1 := RL_kz (RL_hea (RL_q0 H ha hc) ha hc (nC h) h4)
  rw [heaS_o _ _ _ (by decide)] at H1
  exact H1
