/-! ===== a new write, in both ===== -/
theorem newW_eq (h : Rg) (c : Nat) (w : Int32) : newWS h c w = up2 (up2 (up2 (up2 (up2 (up2 h 8 (nW h) (nI c)) 10 (nW h) w) 9 (nW h) (h 0 1)) 0 2 (h 0 2 + nI 1)) 4 c (h 4 c ||| (nI 1 <<< (h 0 2 &&& 31)))) 5 0 (upd (h 4) c (h 4 c ||| (nI 1 <<< (h 0 2 &&& 31))) 0) := by
  unfold newWS learnS
  rw [up2_comm _ _ _ (show ¬ (5 = 0 ∧ 0 = 2) by omega), up2_comm _ _ _ (show ¬ (4 = 0 ∧ c = 2) by omega), up2_comm _ _ _ (show ¬ (9 = 10 ∧ nW h = nW h) by omega)]
  rfl
theorem RL_newW {h : Rg} {m : Nat → Int32} (H : Rlm h m) {c : Nat} (hc : c < 4) (w : Int32) (hW : nW h < 24) (hN : Wf (newWS h c w)) (eC : nC (newWS h c w) = nC h) (eW : nW (newWS h c w) = nW h + 1) : Rlm (newWS h c w) (mNw m c w) := by
  refine ⟨hN, ?_⟩
  rw [eC, eW, newW_eq]
  have e0 := H.1.2.2.2.1
  have R1 := RV_up H.2 (i := 15 + 3 * nW h) (by omega) (sl_w _ hW).1 (nI c)
  have R2 := RV_up R1 (i := 15 + 3 * nW h + 1) (by omega) (sl_w _ hW).2.1 w
  have R3 := RV_up R2 (i := 15 + 3 * nW h + 2) (by omega) (sl_w _ hW).2.2 (h 0 1)
  have R4 := RV_up R3 (i := 14) (by omega) (show sl 14 = (0, 2) by decide) (h 0 2 + nI 1)
  have R5 := RV_up R4 (i := 87 + c) (by omega) (sl_k c hc).1 (h 4 c ||| (nI 1 <<< (h 0 2 &&& 31)))
  have R6 := RV_up R5 (i := 91) (by omega) (sl_k 0 (by decide)).2 (upd (h 4) c (h 4 c ||| (nI 1 <<< (h 0 2 &&& 31))) 0)
  have em : mNw m c w = upd (upd (upd (upd (upd (upd m (15 + 3 * nW h) (nI c)) (15 + 3 * nW h + 1) w) (15 + 3 * nW h + 2) (h 0 1)) 14 (h 0 2 + nI 1)) (87 + c) (h 4 c ||| (nI 1 <<< (h 0 2 &&& 31)))) 91 (upd (h 4) c (h 4 c ||| (nI 1 <<< (h 0 2 &&& 31))) 0) := by
    have a1 : mN1 m c w = upd (upd m (15 + 3 * nW h) (nI c)) (15 + 3 * nW h + 1) w := by unfold mN1; rw [RL_W H]
    have a2 : mN2 m c w = upd (upd (upd m (15 + 3 * nW h) (nI c)) (15 + 3 * nW h + 1) w) (15 + 3 * nW h + 2) (h 0 1) := by
      unfold mN2
      rw [a1, RL_W H, upd_ne (by omega), upd_ne (by omega), RL_1 H]
    have a3 : mN3 m c w = upd (upd (upd (upd m (15 + 3 * nW h) (nI c)) (15 + 3 * nW h + 1) w) (15 + 3 * nW h + 2) (h 0 1)) 14 (h 0 2 + nI 1) := by
      unfold mN3
      rw [a2, upd_ne (by omega), upd_ne (by omega), upd_ne (by omega), RL_14 H]
    unfold mNw mKz
    rw [a3, RL_W H, ← e0, upd_ne (show ¬ 87 + c = 14 by omega), upd_ne (show ¬ 87 + c = 15 + 3 * nW h + 2 by omega), upd_ne (show ¬ 87 + c = 15 + 3 * nW h + 1 by omega), upd_ne (show ¬ 87 + c = 15 + 3 * nW h by omega), RL_k H hc]
    congr 1
    by_cases hc0 : c = 0
    · subst hc0
      rw [upd_eq]
      exact upd_eq.symm
    · rw [upd_ne (show ¬ 87 = 87 + c by omega), upd_ne (by omega), upd_ne (by omega), upd_ne (by omega), upd_ne (by omega), upd_ne (show ¬ 0 = c by omega)]
      exact RL_k H (a := 0) (by decide)
  rw [em]
  refine RV_mono R6 (fun i hi hL => ?_)
  show (((((lvc (nC h) (nW h) i ∨ _) ∨ _) ∨ _) ∨ _) ∨ _) ∨ _
  rcases hL with h1 | h1 | h1
  · by_cases q : i < 15 + 3 * nW h
    · exact Or.inl (Or.inl (Or.inl (Or.inl (Or.inl (Or.inl (Or.inl q))))))
    · have : i = 15 + 3 * nW h ∨ i = 15 + 3 * nW h + 1 ∨ i = 15 + 3 * nW h + 2 := by omega
      rcases this with e | e | e
      · exact Or.inl (Or.inl (Or.inl (Or.inl (Or.inl (Or.inr e)))))
      · exact Or.inl (Or.inl (Or.inl (Or.inl (Or.inr e))))
      · exact Or.inl (Or.inl (Or.inl (Or.inr e)))
  · exact Or.inl (Or.inl (Or.inl (Or.inl (Or.inl (Or.inl (Or.inr (Or.inl h1)))))))
  · exact Or.inl (Or.inl (Or.inl (Or.inl (Or.inl (Or.inl (Or.inr (Or.inr h1)))))))
