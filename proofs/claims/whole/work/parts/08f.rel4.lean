/-! ===== pushes, in both ===== -/
theorem or_3 {x y u : Int32} (h1 : x ||| u = x) : x ||| y ||| u = x ||| y := by
  apply gb_ext
  intro i hi
  have g1 := congrArg (fun z => gb z i) h1
  simp only [or_gb] at g1 ⊢
  revert g1
  cases gb x i <;> cases gb y i <;> cases gb u i <;> decide
theorem push_0 (h : Rg) (c a : Nat) : pushS h c a 0 = h 0 := rfl
theorem push_4 (h : Rg) (c a : Nat) : pushS h c a 4 = upd (h 4) a (h 4 a ||| wBy (h 8) (nI c) (nW h)) := rfl
theorem push_5 (h : Rg) (c a : Nat) : pushS h c a 5 = upd (h 5) 0 (upd (h 4) a (h 4 a ||| wBy (h 8) (nI c) (nW h)) 0) := rfl
theorem JV_push {h : Rg} (J : JV h) {a c : Nat} : JV (pushS h c a) := by
  unfold JV
  rw [push_4, push_5]
  refine ⟨upd_eq, fun b hb => ?_⟩
  by_cases h0 : b = 0
  · subst h0
    rw [upd_eq, Int32.or_self]
  · rw [upd_ne h0]
    by_cases e : b = a
    · subst e
      rw [upd_eq]
      exact or_3 (J.2 b hb)
    · rw [upd_ne e]
      exact J.2 b hb
theorem KV_push {h : Rg} (V : KV h) (hw : nW h ≤ 24) {a c : Nat} (ha : a < 4) : KV (pushS h c a) := by
  intro b hb i hi hn
  rw [nW_congr (push_0 h c a)] at hn
  rw [push_4]
  by_cases e : b = a
  · rw [e, upd_eq, or_gb, V a ha i hi hn, wBy_gb _ _ _ hw]
    simp [Nat.not_lt.mpr hn]
  · rw [upd_ne e]
    exact V b hb i hi hn
theorem RL_bnd {h : Rg} {m : Nat → Int32} (H : Rlm h m) (J : JV h) (V : KV h) {a : Nat} (ha : a < nC h) : ∀ n, n ≤ nC h → Rlm (bndS h a n).1 (mBn m a n).1 ∧ JV (bndS h a n).1 ∧ KV (bndS h a n).1 ∧ (bndS h a n).1 0 = h 0 ∧ (bndS h a n).2 = (mBn m a n).2
  | 0, _ => ⟨H, J, V, rfl, rfl⟩
  | n + 1, hn => by
    obtain ⟨H1, J1, V1, z1, e1⟩ := RL_bnd H J V ha n (by omega)
    have h4 := H.1.2.2.1
    have hC := nC_congr z1
    rw [bndS, mBn]
    by_cases h1 : n = a
    · rw [if_pos h1, if_pos h1]; exact ⟨H1, J1, V1, z1, e1⟩
    · have hna : ¬ a = n := fun z => h1 z.symm
      rw [if_neg h1, if_neg h1, RL_lf H1 (by omega) (by omega) hna]
      by_cases h2 : leftS (bndS h a n).1 n a < 0
      · rw [if_pos h2, if_pos h2]
        exact ⟨RL_push H1 (by omega) (by omega), JV_push J1, KV_push V1 H1.1.2.2.2.2 (by omega), z1, congrArg (· + 1) e1⟩
      · rw [if_neg h2, if_neg h2]; exact ⟨H1, J1, V1, z1, e1⟩
theorem RL_acc {h : Rg} {m : Nat → Int32} (H : Rlm h m) (J : JV h) (V : KV h) {c : Nat} (hc : c < nC h) : ∀ n, n ≤ nC h → Rlm (accS h c n).1 (mAc m c n).1 ∧ JV (accS h c n).1 ∧ KV (accS h c n).1 ∧ (accS h c n).1 0 = h 0 ∧ (accS h c n).2 = (mAc m c n).2
  | 0, _ => ⟨H, J, V, rfl, rfl⟩
  | n + 1, hn => by
    obtain ⟨H1, J1, V1, z1, e1⟩ := RL_acc H J V hc n (by omega)
    have h4 := H.1.2.2.1
    have hC := nC_congr z1
    rw [accS, mAc]
    by_cases h1 : n = c
    · rw [if_pos h1, if_pos h1]; exact ⟨H1, J1, V1, z1, e1⟩
    · rw [if_neg h1, if_neg h1, RL_lf H1 (by omega) (by omega) h1]
      by_cases h2 : leftS (accS h c n).1 c n < 0
      · rw [if_pos h2, if_pos h2]
        exact ⟨RL_push H1 (by omega) (by omega), JV_push J1, KV_push V1 H1.1.2.2.2.2 (by omega), z1, congrArg (· + 1) e1⟩
      · rw [if_neg h2, if_neg h2]; exact ⟨H1, J1, V1, z1, e1⟩
